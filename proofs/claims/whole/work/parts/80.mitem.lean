/-! items and whole texts, by the model -/
def PIt (q k : Nat) : Prop := PH q k ∨ PQr q k ∨ q = 21
theorem PIt_O : ∀ q k, PIt q k → PO q k := fun q k h => by
  rcases h with h | h | h
  · exact Or.inl h
  · exact Or.inr (PQr_S q k h)
  · exact Or.inr (by unfold PS; omega)
theorem PQr_I : ∀ q k, PQr q k → PIt q k := fun q k h => Or.inr (Or.inl h)
theorem PA_I : ∀ q k, PA q k → PIt q k := fun q k h => Or.inl (by unfold PA at h; unfold PH; omega)
theorem RX.it {M M1 : jk_M} {b n : Nat} {t : Nat → Int32} (h : RX M b n t) (s : Fm PIt M M1) : RX M1 b n t := h.fm s (by unfold PIt PH PQr; omega) (by unfold PIt PH PQr; omega) (fun k => by unfold PIt PH PQr; omega) (fun k => by unfold PIt PH PQr; omega)
section ITM
variable {S : HS} {n : Nat} {t : Nat → Int32} {p w : Nat}
theorem wd_uq {v : Nat} (hw : w < 10) (hv : v < 10) (h1 : mt n t p w = jk_sL.getD w 0) (h2 : mt n t p v = jk_sL.getD v 0) : w = v := by
  by_cases e : w = v
  · exact e
  · have l1 := sL3 w hw
    have l2 := sL3 v hv
    have a0 := (mt_all (n := n) (t := t) (p := p) (w := w) (i := 0) (by omega)).2
    have a1 := (mt_all (n := n) (t := t) (p := p) (w := w) (i := 1) (by omega)).2
    have b0 := (mt_all (n := n) (t := t) (p := p) (w := v) (i := 0) (by omega)).2
    have b1 := (mt_all (n := n) (t := t) (p := p) (w := v) (i := 1) (by omega)).2
    exact absurd ⟨a0.symm.trans b0, a1.symm.trans b1⟩ (pre2 w hw v hv e)
theorem wd_nn : ∀ k, wdN n t p k = none → ∀ j, j < k → ¬ mt n t p j = jk_sL.getD j 0
  | 0, _, j, hj => absurd hj (Nat.not_lt_zero j)
  | k + 1, h, j, hj => by
    cases hn : wdN n t p k with
    | some v => rw [wd_st hn 1] at h; cases h
    | none =>
      by_cases e : mt n t p k = jk_sL.getD k 0
      · rw [wd_y hn e] at h; cases h
      · by_cases ej : j = k
        · rw [ej]; exact e
        · exact wd_nn k hn j (by omega)
theorem wd_of (hw : w < 10) (h : mt n t p w = jk_sL.getD w 0) : wdN n t p 10 = some w := by
  cases hn : wdN n t p 10 with
  | none => exact absurd h (wd_nn 10 hn w hw)
  | some v =>
    obtain ⟨v10, hm⟩ := wd_lt 10 hn
    rw [wd_uq hw v10 h hm]
theorem so_0 : ∀ w, w < 10 → ¬ soN w 0 = -1 := by decide +kernel
theorem nu_0 (hw : w < 10) (sp : ¬ (p < n ∧ t p = 32)) : nuL S n t w p 3 = .inl p := nuL_f (i := 1) (nuL_n (q := p) (v := fun _ => 0) rfl (so_0 w hw) (nuS_0 sp)) 2
theorem it_none (hv : wmN n t p 10 = none) (hroom : ∀ w, wdN n t p 10 = some w → roomS S w) : itS S n t p = .inl (p + mxN n t p 10) := by
  cases hn : wdN n t p 10 with
  | none => rw [itS_0 hn, (tw_0 10 (Nat.le_refl _) hn).2]
  | some w =>
    obtain ⟨w10, hm⟩ := wd_lt 10 hn
    by_cases sp : p + jk_sL.getD w 0 < n ∧ t (p + jk_sL.getD w 0) = 32
    · rw [tw_1 sp 10 (Nat.le_refl _) hn] at hv; cases hv
    · rw [itS_2 hn (hroom w hn) (nu_0 w10 sp), (tw_2 w10 hm sp 10 (Nat.le_refl _)).2.2 w10]
theorem it_some {v : Nat} (hv : wmN n t p 10 = some v) : wdN n t p 10 = some v ∧ v < 10 ∧ (p + jk_sL.getD v 0 < n ∧ t (p + jk_sL.getD v 0) = 32) := by
  cases hn : wdN n t p 10 with
  | none => rw [(tw_0 10 (Nat.le_refl _) hn).1] at hv; cases hv
  | some w =>
    obtain ⟨w10, hm⟩ := wd_lt 10 hn
    by_cases sp : p + jk_sL.getD w 0 < n ∧ t (p + jk_sL.getD w 0) = 32
    · rw [tw_1 sp 10 (Nat.le_refl _) hn] at hv
      have e : w = v := by simpa using hv
      rw [← e]; exact ⟨rfl, w10, sp⟩
    · rw [(tw_2 w10 hm sp 10 (Nat.le_refl _)).1] at hv; cases hv
theorem nu_end {q : Nat} {v : Nat → Int32} (hw : w < 10) (h : nuL S n t w p (nbN w) = .inr (q, v)) : nuL S n t w p 3 = .inr (q, v) := by
  obtain ⟨-, h3, -, hs⟩ := nb_T w hw
  have hk : ∀ k, nbN w + k ≤ 3 → nuL S n t w p (nbN w + k) = .inr (q, v) := by
    intro k
    induction k with
    | zero => intro _; exact h
    | succ k ih => intro hk; exact nuL_k (ih (by omega)) ((hs (nbN w + k) (by omega)).mpr (by omega))
  have := hk (3 - nbN w) (by omega)
  rw [show nbN w + (3 - nbN w) = 3 by omega] at this
  exact this
theorem nu_stop {i f : Nat} (hi : i < 3) (h : nuL S n t w p (i + 1) = .inl f) : nuL S n t w p 3 = .inl f := by
  have := nuL_f h (3 - (i + 1))
  rw [show i + 1 + (3 - (i + 1)) = 3 by omega] at this
  exact this
theorem so_n {i : Nat} (hw : w < 10) (hi : i < nbN w) : ¬ soN w i = -1 := by
  obtain ⟨-, h3, -, hs⟩ := nb_T w hw
  exact fun z => by have := (hs i (by omega)).mp z; omega
end ITM
theorem in2 {x : Int32} (h : 0 ≤ x ∧ x ≤ 1) : ∃ j, j < 2 ∧ x = nI j := by
  obtain ⟨j, h1, h2, e⟩ := inB_of (a := 0) (b := 1) (by decide) (by decide) h.1 h.2
  exact ⟨j, by omega, e⟩
theorem kv_fm {P : Nat → Nat → Prop} {M M1 : jk_M} {S : HS} {f : Nat} (s : Fm P M M1) (hp : ∀ k, ¬ P f k) (h : kv (M.2.1 f) = S) : kv (M1.2.1 f) = S := by
  rw [← h]; congr 1; funext k; exact s.rd (hp k)
theorem rdL_nx {S T : HS} {n : Nat} {t : Nat → Int32} {p q f k : Nat} (h : itS S n t p = .inr (T, q)) : rdL n t (f + 1) S p k = if q = n then .inr (T, k) else if q < n ∧ t q = 59 then rdL n t f T (q + 1) (k + 1) else .inl q := by simp only [rdL, h]
def PHo (q k : Nat) : Prop := PO q k ∨ (q = 0 ∧ k = 8)
theorem PIt_Ho : ∀ q k, PIt q k → PHo q k := fun q k h => Or.inl (PIt_O q k h)
theorem MV.flt {M M1 : jk_M} {Z : ZS} {S : HS} {x : Int32} (h : MV M Z) (s : Fm PHo M M1) (hS : mv M1.2.1 = S) (hx : M1.2.1 0 8 = x) : MV M1 (nowZ (fltZ Z x) S) := by
  obtain ⟨h1, h2, h3, h4, h5, h6, h7, h8, h9, h10, h11, h12, h13⟩ := h
  have e : ∀ q k, ¬ PHo q k → M1.2.1 q k = M.2.1 q k := s.2.2
  have en : ∀ q, (q = 1 ∨ (13 ≤ q ∧ q ≤ 20) ∨ q = 23 ∨ q = 31) → M1.2.1 q = M.2.1 q := fun q hq => by
    funext k; exact e q k (by unfold PHo PO PH PS; omega)
  have e0 : ∀ k, (k = 40 ∨ k = 49 ∨ k = 50) → M1.2.1 0 k = M.2.1 0 k := fun k hk => e 0 k (by unfold PHo PO PH PS; omega)
  refine ⟨s.M h1, hS, fun h => ?_, fun t ht => by rw [en 13 (by omega), en 14 (by omega), en 15 (by omega), en 16 (by omega)]; exact h4 t ht, fun t ht i hi => by rw [s.2.1]; exact h5 t ht i hi, fun i hi => ?_, ?_, ?_, ?_, fun i hi => ?_, (e0 40 (by omega)).trans h11, fun i hi => by rw [en 19 (by omega)]; exact h12 i hi, fun i hi => by rw [en 20 (by omega)]; exact h13 i hi⟩
  · have h : va_up Z.2.2.2.2 9 x 8 = 1 := h
    rw [va_up_ne _ _ (by omega)] at h
    rw [en 23 (by omega)]; exact h3 h
  · show _ = va_up Z.2.2.2.2 9 x i
    rw [en 1 (by omega), va_up_ne _ _ (by omega)]; exact h6 i hi
  · show _ = va_up Z.2.2.2.2 9 x 8
    rw [va_up_ne _ _ (by omega)]; exact (e0 50 (by omega)).trans h7
  · show _ = va_up Z.2.2.2.2 9 x 9
    rw [va_up_self]; exact hx
  · show _ = va_up Z.2.2.2.2 9 x 10
    rw [va_up_ne _ _ (by omega)]; exact (e0 49 (by omega)).trans h9
  · show _ = va_up Z.2.2.2.2 9 x (11 + i)
    rw [en 31 (by omega), va_up_ne _ _ (by omega)]; exact h10 i hi
set_option maxRecDepth 20000 in
set_option maxHeartbeats 4000000 in
theorem T_itemN {d : Nat} {M : jk_M} {S : HS} (hM : WM M) (hS : mv M.2.1 = S) (ok : Sok S) {b n : Nat} {t : Nat → Int32} (rx : RX M b n t) {p : Nat} (hp : M.2.1 0 31 = nI p) (hpn : p ≤ n) (hv : wmN n t p 10 = none) : J Fr_X11_item (d + 3) 0 0 0 [(0, .ref 0)] [] M (jk_or (.int 1) (fun M1 => ∃ T q, itS S n t p = .inr (T, q) ∧ Fm PIt M M1 ∧ mv M1.2.1 = T ∧ M1.2.1 0 31 = nI q) (.int 0) (fun M1 => ∃ f, itS S n t p = .inl f ∧ Fm PIt M M1 ∧ M1.2.1 0 34 = nI f)) := by
  refine j_post (fun Q hQ => ?_)
  have hb := rx.1
  have hn := rx.2.1
  have hcT := (Sok.T ok).2
  have hcN := (Sok.N ok).2
  have hcD := (Sok.D ok).2
  refine j_aload_n 0 dX11_item_0 rfl ?_
  refine j_iconst 1 dX11_item_1 ic_1 ?_
  refine j_callV (kc := 0) (ks := 0) (a := 0) (b := 0) (d' := d) (As := [.int 1]) dX11_item_2 kX11_212 rfl (shM hM sgM_0) (by omega) rfl rfl rfl (Nat.le_of_ble_eq_true rfl) (Nat.le_of_ble_eq_true rfl) (T_X11_stands hM rx hp (by omega) (w := 1) (by decide)) (kk_p ?_)
  refine j_if_eqB (p := (mt n t p 1 = jk_sL.getD 1 0)) (tgt := 17) dX11_item_5 rfl (fun c1 => ?_) (fun c1 => ?_)
  · refine j_aload_n 0 dX11_item_17 rfl ?_
    refine j_iconst 5 dX11_item_18 ic_5 ?_
    refine j_callV (kc := 0) (ks := 0) (a := 0) (b := 0) (d' := d) (As := [.int 5]) dX11_item_19 kX11_212 rfl (shM hM sgM_0) (by omega) rfl rfl rfl (Nat.le_of_ble_eq_true rfl) (Nat.le_of_ble_eq_true rfl) (T_X11_stands hM rx hp (by omega) (w := 5) (by decide)) (kk_p ?_)
    refine j_if_eqB (p := (mt n t p 5 = jk_sL.getD 5 0)) (tgt := 34) dX11_item_22 rfl (fun c2 => ?_) (fun c2 => ?_)
    · refine j_aload_n 0 dX11_item_34 rfl ?_
      refine j_bipush 6 dX11_item_35 bp_6 ?_
      refine j_callV (kc := 0) (ks := 0) (a := 0) (b := 0) (d' := d) (As := [.int 6]) dX11_item_37 kX11_212 rfl (shM hM sgM_0) (by omega) rfl rfl rfl (Nat.le_of_ble_eq_true rfl) (Nat.le_of_ble_eq_true rfl) (T_X11_stands hM rx hp (by omega) (w := 6) (by decide)) (kk_p ?_)
      refine j_if_eqB (p := (mt n t p 6 = jk_sL.getD 6 0)) (tgt := 61) dX11_item_40 rfl (fun c3 => ?_) (fun c3 => ?_)
      · have hroom : ∀ w, wdN n t p 10 = some w → roomS S w := fun w hw => ⟨(fun e => by first | omega | exact absurd (show mt n t p 1 = jk_sL.getD 1 0 by have q := (wd_lt 10 hw).2; rw [e] at q; exact q) (by assumption)), (fun e => by first | omega | exact absurd (show mt n t p 5 = jk_sL.getD 5 0 by have q := (wd_lt 10 hw).2; rw [e] at q; exact q) (by assumption)), (fun e => by first | omega | exact absurd (show mt n t p 6 = jk_sL.getD 6 0 by have q := (wd_lt 10 hw).2; rw [e] at q; exact q) (by assumption))⟩
        refine j_aload_n 0 dX11_item_61 rfl ?_
        refine j_callV (kc := 0) (ks := 0) (a := 0) (b := 0) (d' := d) (As := []) dX11_item_62 kX11_215 rfl (shM hM sgM_0) (by omega) rfl rfl rfl (Nat.le_of_ble_eq_true rfl) (Nat.le_of_ble_eq_true rfl) (T_wordN hM rx hp (by omega) hv) (kk_p ?_)
        have sm4 : Fm PIt M (jk_wI M 0 34 (nI (p + mxN n t p 10))) := Fm.w Fm.rf (by unfold PIt PH PQr; omega)
        refine j_istore_n (L' := [(1, .int (-1)), (0, .ref 0)]) dX11_item_65 (by decide) rfl ?_
        refine j_iload_n 0 dX11_item_66 rfl ?_
        refine j_iconst (-1) dX11_item_67 ic_n1 ?_
        refine j_icmp_ne (tgt := 73) dX11_item_68 rfl (fun c5 => ?_) (fun c5 => ?_)
        · exact absurd c5 (by decide)
        · refine j_iconst 0 dX11_item_71 ic_0 ?_
          refine j_zret dX11_item_72 rfl rfl ?_
          exact hQ _ _ (Or.inr ⟨rfl, _, it_none hv hroom, sm4, rd_s⟩)
      · refine j_aload_n 0 dX11_item_43 rfl ?_
        refine j_getv (nI (nD S)) dX11_item_44 fX11_147 (shM hM sgM_0) rfl ((mr_D hS).trans (Sok.D ok).1) ?_
        refine j_bipush 6 dX11_item_47 bp_6 ?_
        refine j_icmp_neN (tgt := 61) (nD S) 6 dX11_item_49 rfl (by omega) (by omega) (fun c6 => ?_) (fun c6 => ?_)
        · have hroom : ∀ w, wdN n t p 10 = some w → roomS S w := fun w hw => ⟨(fun e => by first | omega | exact absurd (show mt n t p 1 = jk_sL.getD 1 0 by have q := (wd_lt 10 hw).2; rw [e] at q; exact q) (by assumption)), (fun e => by first | omega | exact absurd (show mt n t p 5 = jk_sL.getD 5 0 by have q := (wd_lt 10 hw).2; rw [e] at q; exact q) (by assumption)), (fun e => by first | omega | exact absurd (show mt n t p 6 = jk_sL.getD 6 0 by have q := (wd_lt 10 hw).2; rw [e] at q; exact q) (by assumption))⟩
          refine j_aload_n 0 dX11_item_61 rfl ?_
          refine j_callV (kc := 0) (ks := 0) (a := 0) (b := 0) (d' := d) (As := []) dX11_item_62 kX11_215 rfl (shM hM sgM_0) (by omega) rfl rfl rfl (Nat.le_of_ble_eq_true rfl) (Nat.le_of_ble_eq_true rfl) (T_wordN hM rx hp (by omega) hv) (kk_p ?_)
          have sm7 : Fm PIt M (jk_wI M 0 34 (nI (p + mxN n t p 10))) := Fm.w Fm.rf (by unfold PIt PH PQr; omega)
          refine j_istore_n (L' := [(1, .int (-1)), (0, .ref 0)]) dX11_item_65 (by decide) rfl ?_
          refine j_iload_n 0 dX11_item_66 rfl ?_
          refine j_iconst (-1) dX11_item_67 ic_n1 ?_
          refine j_icmp_ne (tgt := 73) dX11_item_68 rfl (fun c8 => ?_) (fun c8 => ?_)
          · exact absurd c8 (by decide)
          · refine j_iconst 0 dX11_item_71 ic_0 ?_
            refine j_zret dX11_item_72 rfl rfl ?_
            exact hQ _ _ (Or.inr ⟨rfl, _, it_none hv hroom, sm7, rd_s⟩)
        · refine j_aload_n 0 dX11_item_52 rfl ?_
          refine j_aload_n 0 dX11_item_53 rfl ?_
          refine j_getv (nI p) dX11_item_54 fX11_193 (shM hM sgM_0) rfl hp ?_
          refine j_callV (kc := 0) (ks := 0) (a := 0) (b := 0) (d' := d) (As := [.int (nI p)]) dX11_item_57 kX11_209 rfl (shM hM sgM_0) (by omega) rfl rfl rfl (Nat.le_of_ble_eq_true rfl) (Nat.le_of_ble_eq_true rfl) (T_X11_wrong hM (nI p)) (kk_p ?_)
          have sm9 : Fm PIt M (jk_wI M 0 34 (nI p)) := Fm.w Fm.rf (by unfold PIt PH PQr; omega)
          refine j_zret dX11_item_60 rfl rfl ?_
          exact hQ _ _ (Or.inr ⟨rfl, p, itS_1 (wd_of (w := 6) (by decide) (by assumption)) (fun z => by have q := z.2.2 rfl; omega), sm9, rd_s⟩)
    · refine j_aload_n 0 dX11_item_25 rfl ?_
      refine j_getv (nI (nN S)) dX11_item_26 fX11_144 (shM hM sgM_0) rfl ((mr_N hS).trans (Sok.N ok).1) ?_
      refine j_bipush 8 dX11_item_29 bp_8 ?_
      refine j_icmp_eqN (tgt := 52) (nN S) 8 dX11_item_31 rfl (by omega) (by omega) (fun c10 => ?_) (fun c10 => ?_)
      · refine j_aload_n 0 dX11_item_52 rfl ?_
        refine j_aload_n 0 dX11_item_53 rfl ?_
        refine j_getv (nI p) dX11_item_54 fX11_193 (shM hM sgM_0) rfl hp ?_
        refine j_callV (kc := 0) (ks := 0) (a := 0) (b := 0) (d' := d) (As := [.int (nI p)]) dX11_item_57 kX11_209 rfl (shM hM sgM_0) (by omega) rfl rfl rfl (Nat.le_of_ble_eq_true rfl) (Nat.le_of_ble_eq_true rfl) (T_X11_wrong hM (nI p)) (kk_p ?_)
        have sm11 : Fm PIt M (jk_wI M 0 34 (nI p)) := Fm.w Fm.rf (by unfold PIt PH PQr; omega)
        refine j_zret dX11_item_60 rfl rfl ?_
        exact hQ _ _ (Or.inr ⟨rfl, p, itS_1 (wd_of (w := 5) (by decide) (by assumption)) (fun z => by have q := z.2.1 rfl; omega), sm11, rd_s⟩)
      · refine j_aload_n 0 dX11_item_34 rfl ?_
        refine j_bipush 6 dX11_item_35 bp_6 ?_
        refine j_callV (kc := 0) (ks := 0) (a := 0) (b := 0) (d' := d) (As := [.int 6]) dX11_item_37 kX11_212 rfl (shM hM sgM_0) (by omega) rfl rfl rfl (Nat.le_of_ble_eq_true rfl) (Nat.le_of_ble_eq_true rfl) (T_X11_stands hM rx hp (by omega) (w := 6) (by decide)) (kk_p ?_)
        refine j_if_eqB (p := (mt n t p 6 = jk_sL.getD 6 0)) (tgt := 61) dX11_item_40 rfl (fun c12 => ?_) (fun c12 => ?_)
        · have hroom : ∀ w, wdN n t p 10 = some w → roomS S w := fun w hw => ⟨(fun e => by first | omega | exact absurd (show mt n t p 1 = jk_sL.getD 1 0 by have q := (wd_lt 10 hw).2; rw [e] at q; exact q) (by assumption)), (fun e => by first | omega | exact absurd (show mt n t p 5 = jk_sL.getD 5 0 by have q := (wd_lt 10 hw).2; rw [e] at q; exact q) (by assumption)), (fun e => by first | omega | exact absurd (show mt n t p 6 = jk_sL.getD 6 0 by have q := (wd_lt 10 hw).2; rw [e] at q; exact q) (by assumption))⟩
          refine j_aload_n 0 dX11_item_61 rfl ?_
          refine j_callV (kc := 0) (ks := 0) (a := 0) (b := 0) (d' := d) (As := []) dX11_item_62 kX11_215 rfl (shM hM sgM_0) (by omega) rfl rfl rfl (Nat.le_of_ble_eq_true rfl) (Nat.le_of_ble_eq_true rfl) (T_wordN hM rx hp (by omega) hv) (kk_p ?_)
          have sm13 : Fm PIt M (jk_wI M 0 34 (nI (p + mxN n t p 10))) := Fm.w Fm.rf (by unfold PIt PH PQr; omega)
          refine j_istore_n (L' := [(1, .int (-1)), (0, .ref 0)]) dX11_item_65 (by decide) rfl ?_
          refine j_iload_n 0 dX11_item_66 rfl ?_
          refine j_iconst (-1) dX11_item_67 ic_n1 ?_
          refine j_icmp_ne (tgt := 73) dX11_item_68 rfl (fun c14 => ?_) (fun c14 => ?_)
          · exact absurd c14 (by decide)
          · refine j_iconst 0 dX11_item_71 ic_0 ?_
            refine j_zret dX11_item_72 rfl rfl ?_
            exact hQ _ _ (Or.inr ⟨rfl, _, it_none hv hroom, sm13, rd_s⟩)
        · refine j_aload_n 0 dX11_item_43 rfl ?_
          refine j_getv (nI (nD S)) dX11_item_44 fX11_147 (shM hM sgM_0) rfl ((mr_D hS).trans (Sok.D ok).1) ?_
          refine j_bipush 6 dX11_item_47 bp_6 ?_
          refine j_icmp_neN (tgt := 61) (nD S) 6 dX11_item_49 rfl (by omega) (by omega) (fun c15 => ?_) (fun c15 => ?_)
          · have hroom : ∀ w, wdN n t p 10 = some w → roomS S w := fun w hw => ⟨(fun e => by first | omega | exact absurd (show mt n t p 1 = jk_sL.getD 1 0 by have q := (wd_lt 10 hw).2; rw [e] at q; exact q) (by assumption)), (fun e => by first | omega | exact absurd (show mt n t p 5 = jk_sL.getD 5 0 by have q := (wd_lt 10 hw).2; rw [e] at q; exact q) (by assumption)), (fun e => by first | omega | exact absurd (show mt n t p 6 = jk_sL.getD 6 0 by have q := (wd_lt 10 hw).2; rw [e] at q; exact q) (by assumption))⟩
            refine j_aload_n 0 dX11_item_61 rfl ?_
            refine j_callV (kc := 0) (ks := 0) (a := 0) (b := 0) (d' := d) (As := []) dX11_item_62 kX11_215 rfl (shM hM sgM_0) (by omega) rfl rfl rfl (Nat.le_of_ble_eq_true rfl) (Nat.le_of_ble_eq_true rfl) (T_wordN hM rx hp (by omega) hv) (kk_p ?_)
            have sm16 : Fm PIt M (jk_wI M 0 34 (nI (p + mxN n t p 10))) := Fm.w Fm.rf (by unfold PIt PH PQr; omega)
            refine j_istore_n (L' := [(1, .int (-1)), (0, .ref 0)]) dX11_item_65 (by decide) rfl ?_
            refine j_iload_n 0 dX11_item_66 rfl ?_
            refine j_iconst (-1) dX11_item_67 ic_n1 ?_
            refine j_icmp_ne (tgt := 73) dX11_item_68 rfl (fun c17 => ?_) (fun c17 => ?_)
            · exact absurd c17 (by decide)
            · refine j_iconst 0 dX11_item_71 ic_0 ?_
              refine j_zret dX11_item_72 rfl rfl ?_
              exact hQ _ _ (Or.inr ⟨rfl, _, it_none hv hroom, sm16, rd_s⟩)
          · refine j_aload_n 0 dX11_item_52 rfl ?_
            refine j_aload_n 0 dX11_item_53 rfl ?_
            refine j_getv (nI p) dX11_item_54 fX11_193 (shM hM sgM_0) rfl hp ?_
            refine j_callV (kc := 0) (ks := 0) (a := 0) (b := 0) (d' := d) (As := [.int (nI p)]) dX11_item_57 kX11_209 rfl (shM hM sgM_0) (by omega) rfl rfl rfl (Nat.le_of_ble_eq_true rfl) (Nat.le_of_ble_eq_true rfl) (T_X11_wrong hM (nI p)) (kk_p ?_)
            have sm18 : Fm PIt M (jk_wI M 0 34 (nI p)) := Fm.w Fm.rf (by unfold PIt PH PQr; omega)
            refine j_zret dX11_item_60 rfl rfl ?_
            exact hQ _ _ (Or.inr ⟨rfl, p, itS_1 (wd_of (w := 6) (by decide) (by assumption)) (fun z => by have q := z.2.2 rfl; omega), sm18, rd_s⟩)
  · refine j_aload_n 0 dX11_item_8 rfl ?_
    refine j_getv (nI (nT S)) dX11_item_9 fX11_123 (shM hM sgM_0) rfl ((mr_T hS).trans (Sok.T ok).1) ?_
    refine j_bipush 16 dX11_item_12 bp_16 ?_
    refine j_icmp_eqN (tgt := 52) (nT S) 16 dX11_item_14 rfl (by omega) (by omega) (fun c19 => ?_) (fun c19 => ?_)
    · refine j_aload_n 0 dX11_item_52 rfl ?_
      refine j_aload_n 0 dX11_item_53 rfl ?_
      refine j_getv (nI p) dX11_item_54 fX11_193 (shM hM sgM_0) rfl hp ?_
      refine j_callV (kc := 0) (ks := 0) (a := 0) (b := 0) (d' := d) (As := [.int (nI p)]) dX11_item_57 kX11_209 rfl (shM hM sgM_0) (by omega) rfl rfl rfl (Nat.le_of_ble_eq_true rfl) (Nat.le_of_ble_eq_true rfl) (T_X11_wrong hM (nI p)) (kk_p ?_)
      have sm20 : Fm PIt M (jk_wI M 0 34 (nI p)) := Fm.w Fm.rf (by unfold PIt PH PQr; omega)
      refine j_zret dX11_item_60 rfl rfl ?_
      exact hQ _ _ (Or.inr ⟨rfl, p, itS_1 (wd_of (w := 1) (by decide) (by assumption)) (fun z => by have q := z.1 rfl; omega), sm20, rd_s⟩)
    · refine j_aload_n 0 dX11_item_17 rfl ?_
      refine j_iconst 5 dX11_item_18 ic_5 ?_
      refine j_callV (kc := 0) (ks := 0) (a := 0) (b := 0) (d' := d) (As := [.int 5]) dX11_item_19 kX11_212 rfl (shM hM sgM_0) (by omega) rfl rfl rfl (Nat.le_of_ble_eq_true rfl) (Nat.le_of_ble_eq_true rfl) (T_X11_stands hM rx hp (by omega) (w := 5) (by decide)) (kk_p ?_)
      refine j_if_eqB (p := (mt n t p 5 = jk_sL.getD 5 0)) (tgt := 34) dX11_item_22 rfl (fun c21 => ?_) (fun c21 => ?_)
      · refine j_aload_n 0 dX11_item_34 rfl ?_
        refine j_bipush 6 dX11_item_35 bp_6 ?_
        refine j_callV (kc := 0) (ks := 0) (a := 0) (b := 0) (d' := d) (As := [.int 6]) dX11_item_37 kX11_212 rfl (shM hM sgM_0) (by omega) rfl rfl rfl (Nat.le_of_ble_eq_true rfl) (Nat.le_of_ble_eq_true rfl) (T_X11_stands hM rx hp (by omega) (w := 6) (by decide)) (kk_p ?_)
        refine j_if_eqB (p := (mt n t p 6 = jk_sL.getD 6 0)) (tgt := 61) dX11_item_40 rfl (fun c22 => ?_) (fun c22 => ?_)
        · have hroom : ∀ w, wdN n t p 10 = some w → roomS S w := fun w hw => ⟨(fun e => by first | omega | exact absurd (show mt n t p 1 = jk_sL.getD 1 0 by have q := (wd_lt 10 hw).2; rw [e] at q; exact q) (by assumption)), (fun e => by first | omega | exact absurd (show mt n t p 5 = jk_sL.getD 5 0 by have q := (wd_lt 10 hw).2; rw [e] at q; exact q) (by assumption)), (fun e => by first | omega | exact absurd (show mt n t p 6 = jk_sL.getD 6 0 by have q := (wd_lt 10 hw).2; rw [e] at q; exact q) (by assumption))⟩
          refine j_aload_n 0 dX11_item_61 rfl ?_
          refine j_callV (kc := 0) (ks := 0) (a := 0) (b := 0) (d' := d) (As := []) dX11_item_62 kX11_215 rfl (shM hM sgM_0) (by omega) rfl rfl rfl (Nat.le_of_ble_eq_true rfl) (Nat.le_of_ble_eq_true rfl) (T_wordN hM rx hp (by omega) hv) (kk_p ?_)
          have sm23 : Fm PIt M (jk_wI M 0 34 (nI (p + mxN n t p 10))) := Fm.w Fm.rf (by unfold PIt PH PQr; omega)
          refine j_istore_n (L' := [(1, .int (-1)), (0, .ref 0)]) dX11_item_65 (by decide) rfl ?_
          refine j_iload_n 0 dX11_item_66 rfl ?_
          refine j_iconst (-1) dX11_item_67 ic_n1 ?_
          refine j_icmp_ne (tgt := 73) dX11_item_68 rfl (fun c24 => ?_) (fun c24 => ?_)
          · exact absurd c24 (by decide)
          · refine j_iconst 0 dX11_item_71 ic_0 ?_
            refine j_zret dX11_item_72 rfl rfl ?_
            exact hQ _ _ (Or.inr ⟨rfl, _, it_none hv hroom, sm23, rd_s⟩)
        · refine j_aload_n 0 dX11_item_43 rfl ?_
          refine j_getv (nI (nD S)) dX11_item_44 fX11_147 (shM hM sgM_0) rfl ((mr_D hS).trans (Sok.D ok).1) ?_
          refine j_bipush 6 dX11_item_47 bp_6 ?_
          refine j_icmp_neN (tgt := 61) (nD S) 6 dX11_item_49 rfl (by omega) (by omega) (fun c25 => ?_) (fun c25 => ?_)
          · have hroom : ∀ w, wdN n t p 10 = some w → roomS S w := fun w hw => ⟨(fun e => by first | omega | exact absurd (show mt n t p 1 = jk_sL.getD 1 0 by have q := (wd_lt 10 hw).2; rw [e] at q; exact q) (by assumption)), (fun e => by first | omega | exact absurd (show mt n t p 5 = jk_sL.getD 5 0 by have q := (wd_lt 10 hw).2; rw [e] at q; exact q) (by assumption)), (fun e => by first | omega | exact absurd (show mt n t p 6 = jk_sL.getD 6 0 by have q := (wd_lt 10 hw).2; rw [e] at q; exact q) (by assumption))⟩
            refine j_aload_n 0 dX11_item_61 rfl ?_
            refine j_callV (kc := 0) (ks := 0) (a := 0) (b := 0) (d' := d) (As := []) dX11_item_62 kX11_215 rfl (shM hM sgM_0) (by omega) rfl rfl rfl (Nat.le_of_ble_eq_true rfl) (Nat.le_of_ble_eq_true rfl) (T_wordN hM rx hp (by omega) hv) (kk_p ?_)
            have sm26 : Fm PIt M (jk_wI M 0 34 (nI (p + mxN n t p 10))) := Fm.w Fm.rf (by unfold PIt PH PQr; omega)
            refine j_istore_n (L' := [(1, .int (-1)), (0, .ref 0)]) dX11_item_65 (by decide) rfl ?_
            refine j_iload_n 0 dX11_item_66 rfl ?_
            refine j_iconst (-1) dX11_item_67 ic_n1 ?_
            refine j_icmp_ne (tgt := 73) dX11_item_68 rfl (fun c27 => ?_) (fun c27 => ?_)
            · exact absurd c27 (by decide)
            · refine j_iconst 0 dX11_item_71 ic_0 ?_
              refine j_zret dX11_item_72 rfl rfl ?_
              exact hQ _ _ (Or.inr ⟨rfl, _, it_none hv hroom, sm26, rd_s⟩)
          · refine j_aload_n 0 dX11_item_52 rfl ?_
            refine j_aload_n 0 dX11_item_53 rfl ?_
            refine j_getv (nI p) dX11_item_54 fX11_193 (shM hM sgM_0) rfl hp ?_
            refine j_callV (kc := 0) (ks := 0) (a := 0) (b := 0) (d' := d) (As := [.int (nI p)]) dX11_item_57 kX11_209 rfl (shM hM sgM_0) (by omega) rfl rfl rfl (Nat.le_of_ble_eq_true rfl) (Nat.le_of_ble_eq_true rfl) (T_X11_wrong hM (nI p)) (kk_p ?_)
            have sm28 : Fm PIt M (jk_wI M 0 34 (nI p)) := Fm.w Fm.rf (by unfold PIt PH PQr; omega)
            refine j_zret dX11_item_60 rfl rfl ?_
            exact hQ _ _ (Or.inr ⟨rfl, p, itS_1 (wd_of (w := 6) (by decide) (by assumption)) (fun z => by have q := z.2.2 rfl; omega), sm28, rd_s⟩)
      · refine j_aload_n 0 dX11_item_25 rfl ?_
        refine j_getv (nI (nN S)) dX11_item_26 fX11_144 (shM hM sgM_0) rfl ((mr_N hS).trans (Sok.N ok).1) ?_
        refine j_bipush 8 dX11_item_29 bp_8 ?_
        refine j_icmp_eqN (tgt := 52) (nN S) 8 dX11_item_31 rfl (by omega) (by omega) (fun c29 => ?_) (fun c29 => ?_)
        · refine j_aload_n 0 dX11_item_52 rfl ?_
          refine j_aload_n 0 dX11_item_53 rfl ?_
          refine j_getv (nI p) dX11_item_54 fX11_193 (shM hM sgM_0) rfl hp ?_
          refine j_callV (kc := 0) (ks := 0) (a := 0) (b := 0) (d' := d) (As := [.int (nI p)]) dX11_item_57 kX11_209 rfl (shM hM sgM_0) (by omega) rfl rfl rfl (Nat.le_of_ble_eq_true rfl) (Nat.le_of_ble_eq_true rfl) (T_X11_wrong hM (nI p)) (kk_p ?_)
          have sm30 : Fm PIt M (jk_wI M 0 34 (nI p)) := Fm.w Fm.rf (by unfold PIt PH PQr; omega)
          refine j_zret dX11_item_60 rfl rfl ?_
          exact hQ _ _ (Or.inr ⟨rfl, p, itS_1 (wd_of (w := 5) (by decide) (by assumption)) (fun z => by have q := z.2.1 rfl; omega), sm30, rd_s⟩)
        · refine j_aload_n 0 dX11_item_34 rfl ?_
          refine j_bipush 6 dX11_item_35 bp_6 ?_
          refine j_callV (kc := 0) (ks := 0) (a := 0) (b := 0) (d' := d) (As := [.int 6]) dX11_item_37 kX11_212 rfl (shM hM sgM_0) (by omega) rfl rfl rfl (Nat.le_of_ble_eq_true rfl) (Nat.le_of_ble_eq_true rfl) (T_X11_stands hM rx hp (by omega) (w := 6) (by decide)) (kk_p ?_)
          refine j_if_eqB (p := (mt n t p 6 = jk_sL.getD 6 0)) (tgt := 61) dX11_item_40 rfl (fun c31 => ?_) (fun c31 => ?_)
          · have hroom : ∀ w, wdN n t p 10 = some w → roomS S w := fun w hw => ⟨(fun e => by first | omega | exact absurd (show mt n t p 1 = jk_sL.getD 1 0 by have q := (wd_lt 10 hw).2; rw [e] at q; exact q) (by assumption)), (fun e => by first | omega | exact absurd (show mt n t p 5 = jk_sL.getD 5 0 by have q := (wd_lt 10 hw).2; rw [e] at q; exact q) (by assumption)), (fun e => by first | omega | exact absurd (show mt n t p 6 = jk_sL.getD 6 0 by have q := (wd_lt 10 hw).2; rw [e] at q; exact q) (by assumption))⟩
            refine j_aload_n 0 dX11_item_61 rfl ?_
            refine j_callV (kc := 0) (ks := 0) (a := 0) (b := 0) (d' := d) (As := []) dX11_item_62 kX11_215 rfl (shM hM sgM_0) (by omega) rfl rfl rfl (Nat.le_of_ble_eq_true rfl) (Nat.le_of_ble_eq_true rfl) (T_wordN hM rx hp (by omega) hv) (kk_p ?_)
            have sm32 : Fm PIt M (jk_wI M 0 34 (nI (p + mxN n t p 10))) := Fm.w Fm.rf (by unfold PIt PH PQr; omega)
            refine j_istore_n (L' := [(1, .int (-1)), (0, .ref 0)]) dX11_item_65 (by decide) rfl ?_
            refine j_iload_n 0 dX11_item_66 rfl ?_
            refine j_iconst (-1) dX11_item_67 ic_n1 ?_
            refine j_icmp_ne (tgt := 73) dX11_item_68 rfl (fun c33 => ?_) (fun c33 => ?_)
            · exact absurd c33 (by decide)
            · refine j_iconst 0 dX11_item_71 ic_0 ?_
              refine j_zret dX11_item_72 rfl rfl ?_
              exact hQ _ _ (Or.inr ⟨rfl, _, it_none hv hroom, sm32, rd_s⟩)
          · refine j_aload_n 0 dX11_item_43 rfl ?_
            refine j_getv (nI (nD S)) dX11_item_44 fX11_147 (shM hM sgM_0) rfl ((mr_D hS).trans (Sok.D ok).1) ?_
            refine j_bipush 6 dX11_item_47 bp_6 ?_
            refine j_icmp_neN (tgt := 61) (nD S) 6 dX11_item_49 rfl (by omega) (by omega) (fun c34 => ?_) (fun c34 => ?_)
            · have hroom : ∀ w, wdN n t p 10 = some w → roomS S w := fun w hw => ⟨(fun e => by first | omega | exact absurd (show mt n t p 1 = jk_sL.getD 1 0 by have q := (wd_lt 10 hw).2; rw [e] at q; exact q) (by assumption)), (fun e => by first | omega | exact absurd (show mt n t p 5 = jk_sL.getD 5 0 by have q := (wd_lt 10 hw).2; rw [e] at q; exact q) (by assumption)), (fun e => by first | omega | exact absurd (show mt n t p 6 = jk_sL.getD 6 0 by have q := (wd_lt 10 hw).2; rw [e] at q; exact q) (by assumption))⟩
              refine j_aload_n 0 dX11_item_61 rfl ?_
              refine j_callV (kc := 0) (ks := 0) (a := 0) (b := 0) (d' := d) (As := []) dX11_item_62 kX11_215 rfl (shM hM sgM_0) (by omega) rfl rfl rfl (Nat.le_of_ble_eq_true rfl) (Nat.le_of_ble_eq_true rfl) (T_wordN hM rx hp (by omega) hv) (kk_p ?_)
              have sm35 : Fm PIt M (jk_wI M 0 34 (nI (p + mxN n t p 10))) := Fm.w Fm.rf (by unfold PIt PH PQr; omega)
              refine j_istore_n (L' := [(1, .int (-1)), (0, .ref 0)]) dX11_item_65 (by decide) rfl ?_
              refine j_iload_n 0 dX11_item_66 rfl ?_
              refine j_iconst (-1) dX11_item_67 ic_n1 ?_
              refine j_icmp_ne (tgt := 73) dX11_item_68 rfl (fun c36 => ?_) (fun c36 => ?_)
              · exact absurd c36 (by decide)
              · refine j_iconst 0 dX11_item_71 ic_0 ?_
                refine j_zret dX11_item_72 rfl rfl ?_
                exact hQ _ _ (Or.inr ⟨rfl, _, it_none hv hroom, sm35, rd_s⟩)
            · refine j_aload_n 0 dX11_item_52 rfl ?_
              refine j_aload_n 0 dX11_item_53 rfl ?_
              refine j_getv (nI p) dX11_item_54 fX11_193 (shM hM sgM_0) rfl hp ?_
              refine j_callV (kc := 0) (ks := 0) (a := 0) (b := 0) (d' := d) (As := [.int (nI p)]) dX11_item_57 kX11_209 rfl (shM hM sgM_0) (by omega) rfl rfl rfl (Nat.le_of_ble_eq_true rfl) (Nat.le_of_ble_eq_true rfl) (T_X11_wrong hM (nI p)) (kk_p ?_)
              have sm37 : Fm PIt M (jk_wI M 0 34 (nI p)) := Fm.w Fm.rf (by unfold PIt PH PQr; omega)
              refine j_zret dX11_item_60 rfl rfl ?_
              exact hQ _ _ (Or.inr ⟨rfl, p, itS_1 (wd_of (w := 6) (by decide) (by assumption)) (fun z => by have q := z.2.2 rfl; omega), sm37, rd_s⟩)
set_option maxRecDepth 20000 in
set_option maxHeartbeats 4000000 in
theorem T_itemS {d : Nat} {M : jk_M} {S : HS} (hM : WM M) (hS : mv M.2.1 = S) (ok : Sok S) {b n : Nat} {t : Nat → Int32} (rx : RX M b n t) {p : Nat} (hp : M.2.1 0 31 = nI p) (hpn : p ≤ n) (v : Nat) (hv : wmN n t p 10 = some v) : J Fr_X11_item (d + 3) 0 0 0 [(0, .ref 0)] [] M (jk_or (.int 1) (fun M1 => ∃ T q, itS S n t p = .inr (T, q) ∧ Fm PIt M M1 ∧ mv M1.2.1 = T ∧ M1.2.1 0 31 = nI q) (.int 0) (fun M1 => ∃ f, itS S n t p = .inl f ∧ Fm PIt M M1 ∧ M1.2.1 0 34 = nI f)) := by
  refine j_post (fun Q hQ => ?_)
  have hb := rx.1
  have hn := rx.2.1
  have hcT := (Sok.T ok).2
  have hcN := (Sok.N ok).2
  have hcD := (Sok.D ok).2
  obtain ⟨hwd, hv10, hspc⟩ := it_some hv
  refine j_aload_n 0 dX11_item_0 rfl ?_
  refine j_iconst 1 dX11_item_1 ic_1 ?_
  refine j_callV (kc := 0) (ks := 0) (a := 0) (b := 0) (d' := d) (As := [.int 1]) dX11_item_2 kX11_212 rfl (shM hM sgM_0) (by omega) rfl rfl rfl (Nat.le_of_ble_eq_true rfl) (Nat.le_of_ble_eq_true rfl) (T_X11_stands hM rx hp (by omega) (w := 1) (by decide)) (kk_p ?_)
  refine j_if_eqB (p := (mt n t p 1 = jk_sL.getD 1 0)) (tgt := 17) dX11_item_5 rfl (fun c1 => ?_) (fun c1 => ?_)
  · refine j_aload_n 0 dX11_item_17 rfl ?_
    refine j_iconst 5 dX11_item_18 ic_5 ?_
    refine j_callV (kc := 0) (ks := 0) (a := 0) (b := 0) (d' := d) (As := [.int 5]) dX11_item_19 kX11_212 rfl (shM hM sgM_0) (by omega) rfl rfl rfl (Nat.le_of_ble_eq_true rfl) (Nat.le_of_ble_eq_true rfl) (T_X11_stands hM rx hp (by omega) (w := 5) (by decide)) (kk_p ?_)
    refine j_if_eqB (p := (mt n t p 5 = jk_sL.getD 5 0)) (tgt := 34) dX11_item_22 rfl (fun c2 => ?_) (fun c2 => ?_)
    · refine j_aload_n 0 dX11_item_34 rfl ?_
      refine j_bipush 6 dX11_item_35 bp_6 ?_
      refine j_callV (kc := 0) (ks := 0) (a := 0) (b := 0) (d' := d) (As := [.int 6]) dX11_item_37 kX11_212 rfl (shM hM sgM_0) (by omega) rfl rfl rfl (Nat.le_of_ble_eq_true rfl) (Nat.le_of_ble_eq_true rfl) (T_X11_stands hM rx hp (by omega) (w := 6) (by decide)) (kk_p ?_)
      refine j_if_eqB (p := (mt n t p 6 = jk_sL.getD 6 0)) (tgt := 61) dX11_item_40 rfl (fun c3 => ?_) (fun c3 => ?_)
      · have hroom : ∀ w, wdN n t p 10 = some w → roomS S w := fun w hw => ⟨(fun e => by first | omega | exact absurd (show mt n t p 1 = jk_sL.getD 1 0 by have q := (wd_lt 10 hw).2; rw [e] at q; exact q) (by assumption)), (fun e => by first | omega | exact absurd (show mt n t p 5 = jk_sL.getD 5 0 by have q := (wd_lt 10 hw).2; rw [e] at q; exact q) (by assumption)), (fun e => by first | omega | exact absurd (show mt n t p 6 = jk_sL.getD 6 0 by have q := (wd_lt 10 hw).2; rw [e] at q; exact q) (by assumption))⟩
        refine j_aload_n 0 dX11_item_61 rfl ?_
        refine j_callV (kc := 0) (ks := 0) (a := 0) (b := 0) (d' := d) (As := []) dX11_item_62 kX11_215 rfl (shM hM sgM_0) (by omega) rfl rfl rfl (Nat.le_of_ble_eq_true rfl) (Nat.le_of_ble_eq_true rfl) (T_wordS hM rx hp (by omega) v hv) (kk_p ?_)
        have sm4 : Fm PIt M (jk_wI M 0 31 (nI (p + jk_sL.getD v 0 + 1))) := Fm.w Fm.rf (by unfold PIt PH PQr; omega)
        refine j_istore_n (L' := [(1, .int (nI v)), (0, .ref 0)]) dX11_item_65 (by decide) rfl ?_
        have hr3 := hroom v hwd
        have hl9 := sL9 v hv10
        obtain ⟨-, hnb3, hnb1, -⟩ := nb_T v hv10
        have hmW : mv (jk_wI M 0 31 (nI (p + jk_sL.getD v 0 + 1))).2.1 = S := Fm.mv (P := PQr) (Fm.w Fm.rf (by unfold PQr; omega)) hS (fun q k h => by unfold PH at h; unfold PQr; omega)
        refine j_iload_n 0 dX11_item_66 rfl ?_
        refine j_iconst (-1) dX11_item_67 ic_n1 ?_
        refine j_icmp_ne (tgt := 73) dX11_item_68 rfl (fun c5 => ?_) (fun c5 => ?_)
        · refine j_iconst 0 dX11_item_73 ic_0 ?_
          refine j_istore_n (L' := [(2, .int 0), (1, .int (nI v)), (0, .ref 0)]) dX11_item_74 (by decide) rfl ?_
          have lp8 : ∀ (k6 : Nat) (i : Nat) (q : Nat) (vv : Nat → Int32) (M1 : jk_M), nbN v - i < k6 → (i ≤ nbN v) → (nuL S n t v (p + jk_sL.getD v 0) i = .inr (q, vv)) → (Fm PIt M M1) → (mv M1.2.1 = S) → (∀ k, k < i → M1.2.1 21 k = vv k) → ((i = 0 ∧ M1.2.1 0 31 = nI (q + 1) ∧ q < n ∧ t q = 32) ∨ (0 < i ∧ M1.2.1 0 31 = nI q)) → (q ≤ n) → J Fr_X11_item (d + 3) 0 0 75 [(0, .ref 0), (1, .int (nI v)), (2, .int (nI i))] [] M1 Q := by
            intro k6
            induction k6 with
            | zero => intro i q vv M1 hk; exact absurd hk (Nat.not_lt_zero _)
            | succ k6 ih7 =>
              intro i q vv M1 hk6 hi hnu hs1 hm1 htl hpl hqn
              refine j_iload_n 2 dX11_item_75 rfl ?_
              refine j_aload_n 0 dX11_item_76 rfl ?_
              refine j_getr (q := 20) dX11_item_77 fX11_84 (shM (Fm.M hs1 hM) sgM_0) rfl (rfM (Fm.M hs1 hM) rfM_0_28) ?_
              refine j_iload_n 1 dX11_item_80 rfl ?_
              refine j_ialdN v dX11_item_81 (shM (Fm.M hs1 hM) sgM_20) (by omega) (by omega) ?_
              refine j_topi (nI (nbN v)) (((RX.it rx hs1).2.2.2.2.2.2 _ (by omega)).trans (nb_T v hv10).1) ?_
              refine j_icmp_geN (tgt := 184) i (nbN v) dX11_item_82 rfl (by omega) (by omega) (fun c9 => ?_) (fun c9 => ?_)
              · have ei : i = nbN v := by omega
                have hn3 := nu_end hv10 (by rw [← ei]; exact hnu)
                have hmay := (nuL_may 3 _ _ hn3).1
                have h31b : M1.2.1 0 31 = nI q := (hpl.resolve_left (fun z => by omega)).2
                refine j_iload_n 1 dX11_item_184 rfl ?_
                by_cases c11 : (nI v) = 0
                · refine j_tableIn (tgt := 240) dX11_item_185 (by rw [c11]; decide) (by rw [c11]; decide) (off := 55) (by rw [c11]; decide) rfl ?_
                  have hvk : v = 0 := (nI_eq (by omega) (by omega)).mp (c11 : nI v = nI 0)
                  have hnbk : nbN v = 1 := by rw [hvk]; rfl
                  refine j_aload_n 0 dX11_item_240 rfl ?_
                  refine j_aload_n 0 dX11_item_241 rfl ?_
                  refine j_getr (q := 21) dX11_item_242 fX11_87 (shM (Fm.M hs1 hM) sgM_0) rfl (rfM (Fm.M hs1 hM) rfM_0_29) ?_
                  refine j_iconst 0 dX11_item_245 ic_0 ?_
                  refine j_ialdN 0 dX11_item_246 (shM (Fm.M hs1 hM) sgM_21) (by omega) (by omega) ?_
                  refine j_topi (vv 0) (htl _ (by omega)) ?_
                  refine j_put dX11_item_247 fX11_7 (shM (Fm.M hs1 hM) sgM_0) rfl ?_
                  have sm12 : Fm PIt M (jk_wI M1 0 3 (vv 0)) := Fm.w hs1 (by unfold PIt PH PQr; omega)
                  refine j_goto (tgt := 409) dX11_item_250 rfl ?_
                  refine j_iconst 1 dX11_item_409 ic_1 ?_
                  refine j_zret dX11_item_410 rfl rfl ?_
                  have hmv : mv (jk_wI M1 0 3 (vv 0)).2.1 = apS S v (vv 0) (vv 1) (vv 2) := by
                    rw [hvk]
                    exact mv_sc (a := 0) hm1 (by decide) (by decide) (by decide) (by decide)
                  have h31e : (jk_wI M1 0 3 (vv 0)).2.1 0 31 = nI q := (rd_p (by omega)).trans h31b
                  exact hQ _ _ (Or.inl ⟨rfl, _, q, itS_3 hwd hr3 hn3, sm12, hmv, h31e⟩)
                by_cases c13 : (nI v) = 1
                · refine j_tableIn (tgt := 253) dX11_item_185 (by rw [c13]; decide) (by rw [c13]; decide) (off := 68) (by rw [c13]; decide) rfl ?_
                  have hvk : v = 1 := (nI_eq (by omega) (by omega)).mp (c13 : nI v = nI 1)
                  have hnbk : nbN v = 3 := by rw [hvk]; rfl
                  obtain ⟨hr1, hr5, hr6⟩ := hr3
                  have hlt := hr1 hvk
                  have hr3 : roomS S v := ⟨hr1, hr5, hr6⟩
                  refine j_aload_n 0 dX11_item_253 rfl ?_
                  refine j_aload_n 0 dX11_item_254 rfl ?_
                  refine j_getr (q := 21) dX11_item_255 fX11_87 (shM (Fm.M hs1 hM) sgM_0) rfl (rfM (Fm.M hs1 hM) rfM_0_29) ?_
                  refine j_iconst 0 dX11_item_258 ic_0 ?_
                  refine j_ialdN 0 dX11_item_259 (shM (Fm.M hs1 hM) sgM_21) (by omega) (by omega) ?_
                  refine j_topi (vv 0) (htl _ (by omega)) ?_
                  refine j_aload_n 0 dX11_item_260 rfl ?_
                  refine j_getr (q := 21) dX11_item_261 fX11_87 (shM (Fm.M hs1 hM) sgM_0) rfl (rfM (Fm.M hs1 hM) rfM_0_29) ?_
                  refine j_iconst 1 dX11_item_264 ic_1 ?_
                  refine j_ialdN 1 dX11_item_265 (shM (Fm.M hs1 hM) sgM_21) (by omega) (by omega) ?_
                  refine j_topi (vv 1) (htl _ (by omega)) ?_
                  refine j_aload_n 0 dX11_item_266 rfl ?_
                  refine j_getr (q := 21) dX11_item_267 fX11_87 (shM (Fm.M hs1 hM) sgM_0) rfl (rfM (Fm.M hs1 hM) rfM_0_29) ?_
                  refine j_iconst 2 dX11_item_270 ic_2 ?_
                  refine j_ialdN 2 dX11_item_271 (shM (Fm.M hs1 hM) sgM_21) (by omega) (by omega) ?_
                  refine j_topi (vv 2) (htl _ (by omega)) ?_
                  refine j_callV (kc := 0) (ks := 0) (a := 0) (b := 0) (d' := d) (As := [.int (vv 0), .int (vv 1), .int (vv 2)]) dX11_item_272 kX11_157 rfl (shM (Fm.M hs1 hM) sgM_0) (by omega) rfl rfl rfl (Nat.le_of_ble_eq_true rfl) (Nat.le_of_ble_eq_true rfl) (T_X11_addsThing (Fm.M hs1 hM) hm1 ok (vv 0) (vv 1) (vv 2) hlt) (kk_e (fun M14 hM15 => ?_))
                  obtain ⟨h0A, hvA⟩ := hM15
                  have smA : Fm PIt M M14 := Fm.tr hs1 (Fm.mo h0A PA_I)
                  refine j_pop dX11_item_275 rfl ?_
                  refine j_goto (tgt := 409) dX11_item_276 rfl ?_
                  refine j_iconst 1 dX11_item_409 ic_1 ?_
                  refine j_zret dX11_item_410 rfl rfl ?_
                  have hmv : mv M14.2.1 = apS S v (vv 0) (vv 1) (vv 2) := by
                    rw [hvk]
                    exact hvA
                  have h31e : M14.2.1 0 31 = nI q := (Fm.rd h0A (by unfold PA; omega)).trans h31b
                  exact hQ _ _ (Or.inl ⟨rfl, _, q, itS_3 hwd hr3 hn3, smA, hmv, h31e⟩)
                by_cases c16 : (nI v) = 2
                · refine j_tableIn (tgt := 279) dX11_item_185 (by rw [c16]; decide) (by rw [c16]; decide) (off := 94) (by rw [c16]; decide) rfl ?_
                  have hvk : v = 2 := (nI_eq (by omega) (by omega)).mp (c16 : nI v = nI 2)
                  have hnbk : nbN v = 2 := by rw [hvk]; rfl
                  have hm0 : mayS S 4 (vv 0) := by have q := hmay 0 (by omega) (by rw [hvk]; decide); rw [hvk] at q; exact q
                  rw [may_4] at hm0
                  obtain ⟨j0, hj0, ej0⟩ := in2 hm0
                  refine j_aload_n 0 dX11_item_279 rfl ?_
                  refine j_getr (q := 12) dX11_item_280 fX11_59 (shM (Fm.M hs1 hM) sgM_0) rfl (rfM (Fm.M hs1 hM) rfM_0_20) ?_
                  refine j_aload_n 0 dX11_item_283 rfl ?_
                  refine j_getr (q := 21) dX11_item_284 fX11_87 (shM (Fm.M hs1 hM) sgM_0) rfl (rfM (Fm.M hs1 hM) rfM_0_29) ?_
                  refine j_iconst 0 dX11_item_287 ic_0 ?_
                  refine j_ialdN 0 dX11_item_288 (shM (Fm.M hs1 hM) sgM_21) (by omega) (by omega) ?_
                  refine j_topi (nI j0) ((htl 0 (by omega)).trans ej0) ?_
                  refine j_aload_n 0 dX11_item_289 rfl ?_
                  refine j_getr (q := 21) dX11_item_290 fX11_87 (shM (Fm.M hs1 hM) sgM_0) rfl (rfM (Fm.M hs1 hM) rfM_0_29) ?_
                  refine j_iconst 1 dX11_item_293 ic_1 ?_
                  refine j_ialdN 1 dX11_item_294 (shM (Fm.M hs1 hM) sgM_21) (by omega) (by omega) ?_
                  refine j_topi (vv 1) (htl _ (by omega)) ?_
                  refine j_iastN j0 dX11_item_295 (shM (Fm.M hs1 hM) sgM_12) (by omega) (by omega) ?_
                  have sm17 : Fm PIt M (jk_wI M1 12 j0 (vv 1)) := Fm.w hs1 (by unfold PIt PH PQr; omega)
                  refine j_goto (tgt := 409) dX11_item_296 rfl ?_
                  refine j_iconst 1 dX11_item_409 ic_1 ?_
                  refine j_zret dX11_item_410 rfl rfl ?_
                  have hmv : mv (jk_wI M1 12 j0 (vv 1)).2.1 = apS S v (vv 0) (vv 1) (vv 2) := by
                    rw [hvk]
                    refine (show mv (jk_wI M1 12 j0 (vv 1)).2.1 = if vv 0 = 0 then upS S 5 0 (vv 1) else upS S 6 0 (vv 1) from ?_)
                    rcases (show j0 = 0 ∨ j0 = 1 by omega) with e | e
                    · subst e; rw [if_pos (show vv 0 = 0 from ej0)]; exact mv_sc (a := 5) hm1 (by decide) (by decide) (by decide) (by decide)
                    · subst e; rw [if_neg (by rw [ej0]; decide)]; exact mv_sc (a := 6) hm1 (by decide) (by decide) (by decide) (by decide)
                  have h31e : (jk_wI M1 12 j0 (vv 1)).2.1 0 31 = nI q := (rd_p (by omega)).trans h31b
                  exact hQ _ _ (Or.inl ⟨rfl, _, q, itS_3 hwd hr3 hn3, sm17, hmv, h31e⟩)
                by_cases c18 : (nI v) = 3
                · refine j_tableIn (tgt := 299) dX11_item_185 (by rw [c18]; decide) (by rw [c18]; decide) (off := 114) (by rw [c18]; decide) rfl ?_
                  have hvk : v = 3 := (nI_eq (by omega) (by omega)).mp (c18 : nI v = nI 3)
                  have hnbk : nbN v = 1 := by rw [hvk]; rfl
                  refine j_aload_n 0 dX11_item_299 rfl ?_
                  refine j_iconst 0 dX11_item_300 ic_0 ?_
                  refine j_aload_n 0 dX11_item_301 rfl ?_
                  refine j_getr (q := 21) dX11_item_302 fX11_87 (shM (Fm.M hs1 hM) sgM_0) rfl (rfM (Fm.M hs1 hM) rfM_0_29) ?_
                  refine j_iconst 0 dX11_item_305 ic_0 ?_
                  refine j_ialdN 0 dX11_item_306 (shM (Fm.M hs1 hM) sgM_21) (by omega) (by omega) ?_
                  refine j_topi (vv 0) (htl _ (by omega)) ?_
                  refine j_callV (kc := 0) (ks := 0) (a := 0) (b := 0) (d' := d) (As := [.int 0, .int (vv 0)]) dX11_item_307 kX11_177 rfl (shM (Fm.M hs1 hM) sgM_0) (by omega) rfl rfl rfl (Nat.le_of_ble_eq_true rfl) (Nat.le_of_ble_eq_true rfl) (T_tells0 (Fm.M hs1 hM) (vv 0)) (kk_pv ?_)
                  have sm19 : Fm PIt M (jk_wI M1 0 4 (vv 0)) := Fm.w hs1 (by unfold PIt PH PQr; omega)
                  refine j_goto (tgt := 409) dX11_item_310 rfl ?_
                  refine j_iconst 1 dX11_item_409 ic_1 ?_
                  refine j_zret dX11_item_410 rfl rfl ?_
                  have hmv : mv (jk_wI M1 0 4 (vv 0)).2.1 = apS S v (vv 0) (vv 1) (vv 2) := by
                    rw [hvk]
                    exact mv_sc (a := 1) hm1 (by decide) (by decide) (by decide) (by decide)
                  have h31e : (jk_wI M1 0 4 (vv 0)).2.1 0 31 = nI q := (rd_p (by omega)).trans h31b
                  exact hQ _ _ (Or.inl ⟨rfl, _, q, itS_3 hwd hr3 hn3, sm19, hmv, h31e⟩)
                by_cases c20 : (nI v) = 4
                · refine j_tableIn (tgt := 313) dX11_item_185 (by rw [c20]; decide) (by rw [c20]; decide) (off := 128) (by rw [c20]; decide) rfl ?_
                  have hvk : v = 4 := (nI_eq (by omega) (by omega)).mp (c20 : nI v = nI 4)
                  have hnbk : nbN v = 1 := by rw [hvk]; rfl
                  refine j_aload_n 0 dX11_item_313 rfl ?_
                  refine j_iconst 1 dX11_item_314 ic_1 ?_
                  refine j_aload_n 0 dX11_item_315 rfl ?_
                  refine j_getr (q := 21) dX11_item_316 fX11_87 (shM (Fm.M hs1 hM) sgM_0) rfl (rfM (Fm.M hs1 hM) rfM_0_29) ?_
                  refine j_iconst 0 dX11_item_319 ic_0 ?_
                  refine j_ialdN 0 dX11_item_320 (shM (Fm.M hs1 hM) sgM_21) (by omega) (by omega) ?_
                  refine j_topi (vv 0) (htl _ (by omega)) ?_
                  refine j_callV (kc := 0) (ks := 0) (a := 0) (b := 0) (d' := d) (As := [.int 1, .int (vv 0)]) dX11_item_321 kX11_177 rfl (shM (Fm.M hs1 hM) sgM_0) (by omega) rfl rfl rfl (Nat.le_of_ble_eq_true rfl) (Nat.le_of_ble_eq_true rfl) (T_tells1 (Fm.M hs1 hM) (vv 0)) (kk_pv ?_)
                  have sm21 : Fm PIt M (jk_wI M1 0 5 (vv 0)) := Fm.w hs1 (by unfold PIt PH PQr; omega)
                  refine j_goto (tgt := 409) dX11_item_324 rfl ?_
                  refine j_iconst 1 dX11_item_409 ic_1 ?_
                  refine j_zret dX11_item_410 rfl rfl ?_
                  have hmv : mv (jk_wI M1 0 5 (vv 0)).2.1 = apS S v (vv 0) (vv 1) (vv 2) := by
                    rw [hvk]
                    exact mv_sc (a := 2) hm1 (by decide) (by decide) (by decide) (by decide)
                  have h31e : (jk_wI M1 0 5 (vv 0)).2.1 0 31 = nI q := (rd_p (by omega)).trans h31b
                  exact hQ _ _ (Or.inl ⟨rfl, _, q, itS_3 hwd hr3 hn3, sm21, hmv, h31e⟩)
                by_cases c22 : (nI v) = 5
                · refine j_tableIn (tgt := 327) dX11_item_185 (by rw [c22]; decide) (by rw [c22]; decide) (off := 142) (by rw [c22]; decide) rfl ?_
                  have hvk : v = 5 := (nI_eq (by omega) (by omega)).mp (c22 : nI v = nI 5)
                  have hnbk : nbN v = 2 := by rw [hvk]; rfl
                  obtain ⟨hr1, hr5, hr6⟩ := hr3
                  have hlt := hr5 hvk
                  have hr3 : roomS S v := ⟨hr1, hr5, hr6⟩
                  refine j_aload_n 0 dX11_item_327 rfl ?_
                  refine j_aload_n 0 dX11_item_328 rfl ?_
                  refine j_getr (q := 21) dX11_item_329 fX11_87 (shM (Fm.M hs1 hM) sgM_0) rfl (rfM (Fm.M hs1 hM) rfM_0_29) ?_
                  refine j_iconst 0 dX11_item_332 ic_0 ?_
                  refine j_ialdN 0 dX11_item_333 (shM (Fm.M hs1 hM) sgM_21) (by omega) (by omega) ?_
                  refine j_topi (vv 0) (htl _ (by omega)) ?_
                  refine j_aload_n 0 dX11_item_334 rfl ?_
                  refine j_getr (q := 21) dX11_item_335 fX11_87 (shM (Fm.M hs1 hM) sgM_0) rfl (rfM (Fm.M hs1 hM) rfM_0_29) ?_
                  refine j_iconst 1 dX11_item_338 ic_1 ?_
                  refine j_ialdN 1 dX11_item_339 (shM (Fm.M hs1 hM) sgM_21) (by omega) (by omega) ?_
                  refine j_topi (vv 1) (htl _ (by omega)) ?_
                  refine j_callV (kc := 0) (ks := 0) (a := 0) (b := 0) (d' := d) (As := [.int (vv 0), .int (vv 1)]) dX11_item_340 kX11_161 rfl (shM (Fm.M hs1 hM) sgM_0) (by omega) rfl rfl rfl (Nat.le_of_ble_eq_true rfl) (Nat.le_of_ble_eq_true rfl) (T_X11_addsNeighbour (Fm.M hs1 hM) hm1 ok (vv 0) (vv 1) hlt) (kk_e (fun M23 hM24 => ?_))
                  obtain ⟨h0A, hvA⟩ := hM24
                  have smA : Fm PIt M M23 := Fm.tr hs1 (Fm.mo h0A PA_I)
                  refine j_pop dX11_item_343 rfl ?_
                  refine j_goto (tgt := 409) dX11_item_344 rfl ?_
                  refine j_iconst 1 dX11_item_409 ic_1 ?_
                  refine j_zret dX11_item_410 rfl rfl ?_
                  have hmv : mv M23.2.1 = apS S v (vv 0) (vv 1) (vv 2) := by
                    rw [hvk]
                    exact hvA
                  have h31e : M23.2.1 0 31 = nI q := (Fm.rd h0A (by unfold PA; omega)).trans h31b
                  exact hQ _ _ (Or.inl ⟨rfl, _, q, itS_3 hwd hr3 hn3, smA, hmv, h31e⟩)
                by_cases c25 : (nI v) = 6
                · refine j_tableIn (tgt := 347) dX11_item_185 (by rw [c25]; decide) (by rw [c25]; decide) (off := 162) (by rw [c25]; decide) rfl ?_
                  have hvk : v = 6 := (nI_eq (by omega) (by omega)).mp (c25 : nI v = nI 6)
                  have hnbk : nbN v = 3 := by rw [hvk]; rfl
                  obtain ⟨hr1, hr5, hr6⟩ := hr3
                  have hlt := hr6 hvk
                  have hr3 : roomS S v := ⟨hr1, hr5, hr6⟩
                  refine j_aload_n 0 dX11_item_347 rfl ?_
                  refine j_aload_n 0 dX11_item_348 rfl ?_
                  refine j_getr (q := 21) dX11_item_349 fX11_87 (shM (Fm.M hs1 hM) sgM_0) rfl (rfM (Fm.M hs1 hM) rfM_0_29) ?_
                  refine j_iconst 0 dX11_item_352 ic_0 ?_
                  refine j_ialdN 0 dX11_item_353 (shM (Fm.M hs1 hM) sgM_21) (by omega) (by omega) ?_
                  refine j_topi (vv 0) (htl _ (by omega)) ?_
                  refine j_aload_n 0 dX11_item_354 rfl ?_
                  refine j_getr (q := 21) dX11_item_355 fX11_87 (shM (Fm.M hs1 hM) sgM_0) rfl (rfM (Fm.M hs1 hM) rfM_0_29) ?_
                  refine j_iconst 1 dX11_item_358 ic_1 ?_
                  refine j_ialdN 1 dX11_item_359 (shM (Fm.M hs1 hM) sgM_21) (by omega) (by omega) ?_
                  refine j_topi (vv 1) (htl _ (by omega)) ?_
                  refine j_aload_n 0 dX11_item_360 rfl ?_
                  refine j_getr (q := 21) dX11_item_361 fX11_87 (shM (Fm.M hs1 hM) sgM_0) rfl (rfM (Fm.M hs1 hM) rfM_0_29) ?_
                  refine j_iconst 2 dX11_item_364 ic_2 ?_
                  refine j_ialdN 2 dX11_item_365 (shM (Fm.M hs1 hM) sgM_21) (by omega) (by omega) ?_
                  refine j_topi (vv 2) (htl _ (by omega)) ?_
                  refine j_callV (kc := 0) (ks := 0) (a := 0) (b := 0) (d' := d) (As := [.int (vv 0), .int (vv 1), .int (vv 2)]) dX11_item_366 kX11_164 rfl (shM (Fm.M hs1 hM) sgM_0) (by omega) rfl rfl rfl (Nat.le_of_ble_eq_true rfl) (Nat.le_of_ble_eq_true rfl) (T_X11_addsDevice (Fm.M hs1 hM) hm1 ok (vv 0) (vv 1) (vv 2) hlt) (kk_e (fun M26 hM27 => ?_))
                  obtain ⟨h0A, hvA⟩ := hM27
                  have smA : Fm PIt M M26 := Fm.tr hs1 (Fm.mo h0A PA_I)
                  refine j_pop dX11_item_369 rfl ?_
                  refine j_goto (tgt := 409) dX11_item_370 rfl ?_
                  refine j_iconst 1 dX11_item_409 ic_1 ?_
                  refine j_zret dX11_item_410 rfl rfl ?_
                  have hmv : mv M26.2.1 = apS S v (vv 0) (vv 1) (vv 2) := by
                    rw [hvk]
                    exact hvA
                  have h31e : M26.2.1 0 31 = nI q := (Fm.rd h0A (by unfold PA; omega)).trans h31b
                  exact hQ _ _ (Or.inl ⟨rfl, _, q, itS_3 hwd hr3 hn3, smA, hmv, h31e⟩)
                by_cases c28 : (nI v) = 7
                · refine j_tableIn (tgt := 387) dX11_item_185 (by rw [c28]; decide) (by rw [c28]; decide) (off := 202) (by rw [c28]; decide) rfl ?_
                  have hvk : v = 7 := (nI_eq (by omega) (by omega)).mp (c28 : nI v = nI 7)
                  have hnbk : nbN v = 1 := by rw [hvk]; rfl
                  have hm0 : mayS S 10 (vv 0) := by have q := hmay 0 (by omega) (by rw [hvk]; decide); rw [hvk] at q; exact q
                  obtain ⟨j0, hj0, ej0⟩ := may10 ok hm0
                  refine j_aload_n 0 dX11_item_387 rfl ?_
                  refine j_getr (q := 5) dX11_item_388 fX11_38 (shM (Fm.M hs1 hM) sgM_0) rfl (rfM (Fm.M hs1 hM) rfM_0_13) ?_
                  refine j_aload_n 0 dX11_item_391 rfl ?_
                  refine j_getr (q := 21) dX11_item_392 fX11_87 (shM (Fm.M hs1 hM) sgM_0) rfl (rfM (Fm.M hs1 hM) rfM_0_29) ?_
                  refine j_iconst 0 dX11_item_395 ic_0 ?_
                  refine j_ialdN 0 dX11_item_396 (shM (Fm.M hs1 hM) sgM_21) (by omega) (by omega) ?_
                  refine j_topi (nI j0) ((htl 0 (by omega)).trans ej0) ?_
                  refine j_iload_n 1 dX11_item_397 rfl ?_
                  refine j_bipush 8 dX11_item_398 bp_8 ?_
                  refine j_icmp_neN (tgt := 407) v 8 dX11_item_400 rfl (by omega) (by omega) (fun c29 => ?_) (fun c29 => ?_)
                  · refine j_iconst 0 dX11_item_407 ic_0 ?_
                    refine j_iastN j0 dX11_item_408 (shM (Fm.M hs1 hM) sgM_5) (by omega) (by omega) ?_
                    have sm30 : Fm PIt M (jk_wI M1 5 j0 0) := Fm.w hs1 (by unfold PIt PH PQr; omega)
                    refine j_iconst 1 dX11_item_409 ic_1 ?_
                    refine j_zret dX11_item_410 rfl rfl ?_
                    have hmv : mv (jk_wI M1 5 j0 0).2.1 = apS S v (vv 0) (vv 1) (vv 2) := by
                      rw [hvk]
                      show mv (jk_wI M1 5 j0 0).2.1 = upS S 13 (vv 0).toNatClampNeg 0
                      rw [ej0, nI_clamp (by omega)]; exact mv_ar (a := 13) hm1 (by omega)
                    have h31e : (jk_wI M1 5 j0 0).2.1 0 31 = nI q := (rd_p (by omega)).trans h31b
                    exact hQ _ _ (Or.inl ⟨rfl, _, q, itS_3 hwd hr3 hn3, sm30, hmv, h31e⟩)
                  · exact absurd (hvk.symm.trans c29) (by decide)
                by_cases c31 : (nI v) = 8
                · refine j_tableIn (tgt := 387) dX11_item_185 (by rw [c31]; decide) (by rw [c31]; decide) (off := 202) (by rw [c31]; decide) rfl ?_
                  have hvk : v = 8 := (nI_eq (by omega) (by omega)).mp (c31 : nI v = nI 8)
                  have hnbk : nbN v = 1 := by rw [hvk]; rfl
                  have hm0 : mayS S 10 (vv 0) := by have q := hmay 0 (by omega) (by rw [hvk]; decide); rw [hvk] at q; exact q
                  obtain ⟨j0, hj0, ej0⟩ := may10 ok hm0
                  refine j_aload_n 0 dX11_item_387 rfl ?_
                  refine j_getr (q := 5) dX11_item_388 fX11_38 (shM (Fm.M hs1 hM) sgM_0) rfl (rfM (Fm.M hs1 hM) rfM_0_13) ?_
                  refine j_aload_n 0 dX11_item_391 rfl ?_
                  refine j_getr (q := 21) dX11_item_392 fX11_87 (shM (Fm.M hs1 hM) sgM_0) rfl (rfM (Fm.M hs1 hM) rfM_0_29) ?_
                  refine j_iconst 0 dX11_item_395 ic_0 ?_
                  refine j_ialdN 0 dX11_item_396 (shM (Fm.M hs1 hM) sgM_21) (by omega) (by omega) ?_
                  refine j_topi (nI j0) ((htl 0 (by omega)).trans ej0) ?_
                  refine j_iload_n 1 dX11_item_397 rfl ?_
                  refine j_bipush 8 dX11_item_398 bp_8 ?_
                  refine j_icmp_neN (tgt := 407) v 8 dX11_item_400 rfl (by omega) (by omega) (fun c32 => ?_) (fun c32 => ?_)
                  · exact absurd hvk c32
                  · refine j_iconst 1 dX11_item_403 ic_1 ?_
                    refine j_goto (tgt := 408) dX11_item_404 rfl ?_
                    refine j_iastN j0 dX11_item_408 (shM (Fm.M hs1 hM) sgM_5) (by omega) (by omega) ?_
                    have sm33 : Fm PIt M (jk_wI M1 5 j0 1) := Fm.w hs1 (by unfold PIt PH PQr; omega)
                    refine j_iconst 1 dX11_item_409 ic_1 ?_
                    refine j_zret dX11_item_410 rfl rfl ?_
                    have hmv : mv (jk_wI M1 5 j0 1).2.1 = apS S v (vv 0) (vv 1) (vv 2) := by
                      rw [hvk]
                      show mv (jk_wI M1 5 j0 1).2.1 = upS S 13 (vv 0).toNatClampNeg 1
                      rw [ej0, nI_clamp (by omega)]; exact mv_ar (a := 13) hm1 (by omega)
                    have h31e : (jk_wI M1 5 j0 1).2.1 0 31 = nI q := (rd_p (by omega)).trans h31b
                    exact hQ _ _ (Or.inl ⟨rfl, _, q, itS_3 hwd hr3 hn3, sm33, hmv, h31e⟩)
                by_cases c34 : (nI v) = 9
                · refine j_tableIn (tgt := 373) dX11_item_185 (by rw [c34]; decide) (by rw [c34]; decide) (off := 188) (by rw [c34]; decide) rfl ?_
                  have hvk : v = 9 := (nI_eq (by omega) (by omega)).mp (c34 : nI v = nI 9)
                  have hnbk : nbN v = 1 := by rw [hvk]; rfl
                  refine j_aload_n 0 dX11_item_373 rfl ?_
                  refine j_iconst 2 dX11_item_374 ic_2 ?_
                  refine j_aload_n 0 dX11_item_375 rfl ?_
                  refine j_getr (q := 21) dX11_item_376 fX11_87 (shM (Fm.M hs1 hM) sgM_0) rfl (rfM (Fm.M hs1 hM) rfM_0_29) ?_
                  refine j_iconst 0 dX11_item_379 ic_0 ?_
                  refine j_ialdN 0 dX11_item_380 (shM (Fm.M hs1 hM) sgM_21) (by omega) (by omega) ?_
                  refine j_topi (vv 0) (htl _ (by omega)) ?_
                  refine j_callV (kc := 0) (ks := 0) (a := 0) (b := 0) (d' := d) (As := [.int 2, .int (vv 0)]) dX11_item_381 kX11_177 rfl (shM (Fm.M hs1 hM) sgM_0) (by omega) rfl rfl rfl (Nat.le_of_ble_eq_true rfl) (Nat.le_of_ble_eq_true rfl) (T_tells2 (Fm.M hs1 hM) (vv 0)) (kk_pv ?_)
                  have sm35 : Fm PIt M (jk_wI M1 0 6 (vv 0)) := Fm.w hs1 (by unfold PIt PH PQr; omega)
                  refine j_goto (tgt := 409) dX11_item_384 rfl ?_
                  refine j_iconst 1 dX11_item_409 ic_1 ?_
                  refine j_zret dX11_item_410 rfl rfl ?_
                  have hmv : mv (jk_wI M1 0 6 (vv 0)).2.1 = apS S v (vv 0) (vv 1) (vv 2) := by
                    rw [hvk]
                    exact mv_sc (a := 3) hm1 (by decide) (by decide) (by decide) (by decide)
                  have h31e : (jk_wI M1 0 6 (vv 0)).2.1 0 31 = nI q := (rd_p (by omega)).trans h31b
                  exact hQ _ _ (Or.inl ⟨rfl, _, q, itS_3 hwd hr3 hn3, sm35, hmv, h31e⟩)
                have hv10b : v = 0 ∨ v = 1 ∨ v = 2 ∨ v = 3 ∨ v = 4 ∨ v = 5 ∨ v = 6 ∨ v = 7 ∨ v = 8 ∨ v = 9 := by omega
                exfalso
                rcases hv10b with rfl | rfl | rfl | rfl | rfl | rfl | rfl | rfl | rfl | rfl
                · exact c11 rfl
                · exact c13 rfl
                · exact c16 rfl
                · exact c18 rfl
                · exact c20 rfl
                · exact c22 rfl
                · exact c25 rfl
                · exact c28 rfl
                · exact c31 rfl
                · exact c34 rfl
              · refine j_iload_n 2 dX11_item_85 rfl ?_
                refine j_if_leN (tgt := 139) i dX11_item_86 (by omega) rfl (fun c36 => ?_) (fun c36 => ?_)
                · refine j_aload_n 0 dX11_item_139 rfl ?_
                  refine j_getv (nI (q + 1)) dX11_item_140 fX11_193 (shM (Fm.M hs1 hM) sgM_0) rfl (hpl.resolve_right (fun z => by omega)).2.1 ?_
                  refine j_istore_n (L' := [(3, .int (nI (q + 1))), (0, .ref 0), (1, .int (nI v)), (2, .int (nI i))]) dX11_item_143 (by decide) rfl ?_
                  have hmB : mv M1.2.1 = S := hm1
                  have hp1 : M1.2.1 0 31 = nI (q + 1) := (hpl.resolve_right (fun z => by omega)).2.1
                  have hsp : q < n ∧ t q = 32 := by first | exact ⟨by omega, by assumption⟩ | exact (hpl.resolve_right (fun z => by omega)).2.2
                  refine j_aload_n 1 dX11_item_144 rfl ?_
                  refine j_callV (kc := 0) (ks := 0) (a := 0) (b := 0) (d' := (d + 1)) (As := []) dX11_item_145 kX11_219 rfl (shM (Fm.M hs1 hM) sgM_0) (by omega) rfl rfl rfl (Nat.le_of_ble_eq_true rfl) (Nat.le_of_ble_eq_true rfl) (T_X11_reads (Fm.M hs1 hM) (RX.it rx hs1) hp1 (by omega)) (kk_o (fun M37 hM38 => ?_) (fun M39 hM40 => ?_))
                  · obtain ⟨hdg, h0R, h33, h31⟩ := hM38
                    have sm41 : Fm PIt M M37 := Fm.tr hs1 (Fm.mo h0R PQr_I)
                    have hmR : mv M37.2.1 = S := Fm.mv h0R hmB (fun q k h => by unfold PH at h; unfold PQr; omega)
                    refine j_if_ne (tgt := 153) dX11_item_148 rfl (fun c42 => ?_) (fun c42 => ?_)
                    · refine j_aload_n 1 dX11_item_153 rfl ?_
                      refine j_iload_n 2 dX11_item_154 rfl ?_
                      refine j_iload_n 3 dX11_item_155 rfl ?_
                      refine j_callV (kc := 0) (ks := 0) (a := 0) (b := 0) (d' := (d + 2)) (As := [.int (nI v), .int (nI i)]) dX11_item_156 kX11_222 rfl (shM (Fm.M sm41 hM) sgM_0) (by omega) rfl rfl rfl (Nat.le_of_ble_eq_true rfl) (Nat.le_of_ble_eq_true rfl) (T_X11_isSo (Fm.M sm41 hM) hmR ok (nuV_pos hdg) h33 (w := v) (i := i) hv10 (by omega)) (kk_p ?_)
                      refine j_if_neB (p := (mayS S (soN v i) (nuV n t (q + 1)).1)) (tgt := 168) dX11_item_159 rfl (fun c43 => ?_) (fun c43 => ?_)
                      · refine j_aload_n 1 dX11_item_168 rfl ?_
                        refine j_getr (q := 21) dX11_item_169 fX11_87 (shM (Fm.M sm41 hM) sgM_0) rfl (rfM (Fm.M sm41 hM) rfM_0_29) ?_
                        refine j_iload_n 3 dX11_item_172 rfl ?_
                        refine j_aload_n 1 dX11_item_173 rfl ?_
                        refine j_getv (nuV n t (q + 1)).1 dX11_item_174 fX11_202 (shM (Fm.M sm41 hM) sgM_0) rfl h33 ?_
                        refine j_iastN i dX11_item_177 (shM (Fm.M sm41 hM) sgM_21) (by omega) (by omega) ?_
                        have sm44 : Fm PIt M (jk_wI M37 21 i (nuV n t (q + 1)).1) := Fm.w sm41 (by unfold PIt PH PQr; omega)
                        refine j_iinc 3 (nI (i + 1)) (L' := [(2, .int (nI (i + 1))), (3, .int (nI (q + 1))), (0, .ref 0), (1, .int (nI v))]) dX11_item_178 rfl (inc1 i) (by decide) rfl ?_
                        refine j_goto (tgt := 75) dX11_item_181 rfl ?_
                        exact j_sub (jk_pick [2, 3, 0] rfl) (ih7 (i + 1) ((nuV n t (q + 1)).2) (va_up vv i (nuV n t (q + 1)).1) (jk_wI M37 21 i (nuV n t (q + 1)).1) (by omega) (by omega) (nuL_y hnu (so_n hv10 (by omega)) (nuS_3 hsp hdg (by assumption))) sm44 (Fm.mv (P := fun q k => q = 21) (Fm.w Fm.rf rfl) hmR (fun q k h z => by unfold PH at h; omega)) (fun k hk => by
          by_cases e : k = i
          · rw [e, rd_s, va_up_self]
          · rw [rd_k e, va_up_ne _ _ e, Fm.rd h0R (by unfold PQr; omega)]; first | exact htl k (by omega) | exact (rd_o (by decide)).trans (htl k (by omega))) (Or.inr ⟨by omega, (rd_o (by decide)).trans h31⟩) (nuS_in (nuS_3 hsp hdg (by assumption))).2.2.2)
                      · refine j_aload_n 1 dX11_item_162 rfl ?_
                        refine j_iload_n 0 dX11_item_163 rfl ?_
                        refine j_callV (kc := 0) (ks := 0) (a := 0) (b := 0) (d' := d) (As := [.int (nI (q + 1))]) dX11_item_164 kX11_209 rfl (shM (Fm.M sm41 hM) sgM_0) (by omega) rfl rfl rfl (Nat.le_of_ble_eq_true rfl) (Nat.le_of_ble_eq_true rfl) (T_X11_wrong (Fm.M sm41 hM) (nI (q + 1))) (kk_p ?_)
                        have sm45 : Fm PIt M (jk_wI M37 0 34 (nI (q + 1))) := Fm.w sm41 (by unfold PIt PH PQr; omega)
                        refine j_zret dX11_item_167 rfl rfl ?_
                        have hf : nuL S n t v (p + jk_sL.getD v 0) 3 = .inl (q + 1) := nu_stop (by omega) (nuL_n hnu (so_n hv10 (by omega)) (nuS_2 hsp hdg (by assumption)))
                        exact hQ _ _ (Or.inr ⟨rfl, q + 1, itS_2 hwd hr3 hf, sm45, rd_s⟩)
                    · exact absurd c42 (by decide)
                  · obtain ⟨hdg, h0R, h34⟩ := hM40
                    have sm46 : Fm PIt M M39 := Fm.tr hs1 (Fm.mo h0R PQr_I)
                    refine j_if_ne (tgt := 153) dX11_item_148 rfl (fun c47 => ?_) (fun c47 => ?_)
                    · exact absurd c47 (by decide)
                    · refine j_iconst 0 dX11_item_151 ic_0 ?_
                      refine j_zret dX11_item_152 rfl rfl ?_
                      have hf : nuL S n t v (p + jk_sL.getD v 0) 3 = .inl (q + 1) := nu_stop (by omega) (nuL_n hnu (so_n hv10 (by omega)) (nuS_1 hsp hdg))
                      exact hQ _ _ (Or.inr ⟨rfl, q + 1, itS_2 hwd hr3 hf, sm46, h34⟩)
                · refine j_aload_n 0 dX11_item_89 rfl ?_
                  refine j_getv (nI q) dX11_item_90 fX11_193 (shM (Fm.M hs1 hM) sgM_0) rfl (hpl.resolve_left (fun z => by omega)).2 ?_
                  refine j_aload_n 0 dX11_item_93 rfl ?_
                  refine j_getv (nI n) dX11_item_94 fX11_196 (shM (Fm.M hs1 hM) sgM_0) rfl (RX.it rx hs1).2.2.2.1 ?_
                  refine j_icmp_geN (tgt := 120) q n dX11_item_97 rfl (by omega) (by omega) (fun c48 => ?_) (fun c48 => ?_)
                  · refine j_aload_n 0 dX11_item_120 rfl ?_
                    refine j_aload_n 0 dX11_item_121 rfl ?_
                    refine j_getv (nI q) dX11_item_122 fX11_193 (shM (Fm.M hs1 hM) sgM_0) rfl (hpl.resolve_left (fun z => by omega)).2 ?_
                    refine j_callV (kc := 0) (ks := 0) (a := 0) (b := 0) (d' := d) (As := [.int (nI q)]) dX11_item_125 kX11_209 rfl (shM (Fm.M hs1 hM) sgM_0) (by omega) rfl rfl rfl (Nat.le_of_ble_eq_true rfl) (Nat.le_of_ble_eq_true rfl) (T_X11_wrong (Fm.M hs1 hM) (nI q)) (kk_p ?_)
                    have sm49 : Fm PIt M (jk_wI M1 0 34 (nI q)) := Fm.w hs1 (by unfold PIt PH PQr; omega)
                    refine j_zret dX11_item_128 rfl rfl ?_
                    have hf : nuL S n t v (p + jk_sL.getD v 0) 3 = .inl q := nu_stop (by omega) (nuL_n hnu (so_n hv10 (by omega)) (nuS_0 (fun z => by have z1 := z.1; have z2 := z.2; first | omega | exact absurd z2 (by assumption))))
                    exact hQ _ _ (Or.inr ⟨rfl, q, itS_2 hwd hr3 hf, sm49, rd_s⟩)
                  · refine j_aload_n 0 dX11_item_100 rfl ?_
                    refine j_getr (q := 17) dX11_item_101 fX11_74 (shM (Fm.M hs1 hM) sgM_0) rfl (rfM (Fm.M hs1 hM) rfM_0_25) ?_
                    refine j_aload_n 0 dX11_item_104 rfl ?_
                    refine j_getv (nI b) dX11_item_105 fX11_199 (shM (Fm.M hs1 hM) sgM_0) rfl (RX.it rx hs1).2.2.1 ?_
                    refine j_aload_n 0 dX11_item_108 rfl ?_
                    refine j_getv (nI q) dX11_item_109 fX11_193 (shM (Fm.M hs1 hM) sgM_0) rfl (hpl.resolve_left (fun z => by omega)).2 ?_
                    refine j_iaddN b q dX11_item_112 ?_
                    refine j_laldN (b + q) dX11_item_113 (shM (Fm.M hs1 hM) sgM_17) (by omega) (by omega) ?_
                    refine j_l2i dX11_item_114 ?_
                    refine j_topi (t q) ((RX.it rx hs1).2.2.2.2.1 _ (by omega)) ?_
                    refine j_bipush 32 dX11_item_115 bp_32 ?_
                    refine j_icmp_eq (tgt := 129) dX11_item_117 rfl (fun c50 => ?_) (fun c50 => ?_)
                    · refine j_aload_n 0 dX11_item_129 rfl ?_
                      refine j_dup dX11_item_130 rfl ?_
                      refine j_getv (nI q) dX11_item_131 fX11_193 (shM (Fm.M hs1 hM) sgM_0) rfl (hpl.resolve_left (fun z => by omega)).2 ?_
                      refine j_iconst 1 dX11_item_134 ic_1 ?_
                      refine j_iaddN q 1 dX11_item_135 ?_
                      refine j_put dX11_item_136 fX11_193 (shM (Fm.M hs1 hM) sgM_0) rfl ?_
                      have sm51 : Fm PIt M (jk_wI M1 0 31 (nI (q + 1))) := Fm.w hs1 (by unfold PIt PH PQr; omega)
                      refine j_aload_n 0 dX11_item_139 rfl ?_
                      refine j_getv (nI (q + 1)) dX11_item_140 fX11_193 (shM (Fm.M sm51 hM) sgM_0) rfl rd_s ?_
                      refine j_istore_n (L' := [(3, .int (nI (q + 1))), (0, .ref 0), (1, .int (nI v)), (2, .int (nI i))]) dX11_item_143 (by decide) rfl ?_
                      have hmB : mv (jk_wI M1 0 31 (nI (q + 1))).2.1 = S := (Fm.mv (P := PQr) (Fm.w Fm.rf (by unfold PQr; omega)) hm1 (fun q k h => by unfold PH at h; unfold PQr; omega))
                      have hp1 : (jk_wI M1 0 31 (nI (q + 1))).2.1 0 31 = nI (q + 1) := rd_s
                      have hsp : q < n ∧ t q = 32 := by first | exact ⟨by omega, by assumption⟩ | exact (hpl.resolve_right (fun z => by omega)).2.2
                      refine j_aload_n 1 dX11_item_144 rfl ?_
                      refine j_callV (kc := 0) (ks := 0) (a := 0) (b := 0) (d' := (d + 1)) (As := []) dX11_item_145 kX11_219 rfl (shM (Fm.M sm51 hM) sgM_0) (by omega) rfl rfl rfl (Nat.le_of_ble_eq_true rfl) (Nat.le_of_ble_eq_true rfl) (T_X11_reads (Fm.M sm51 hM) (RX.it rx sm51) hp1 (by omega)) (kk_o (fun M52 hM53 => ?_) (fun M54 hM55 => ?_))
                      · obtain ⟨hdg, h0R, h33, h31⟩ := hM53
                        have sm56 : Fm PIt M M52 := Fm.tr sm51 (Fm.mo h0R PQr_I)
                        have hmR : mv M52.2.1 = S := Fm.mv h0R hmB (fun q k h => by unfold PH at h; unfold PQr; omega)
                        refine j_if_ne (tgt := 153) dX11_item_148 rfl (fun c57 => ?_) (fun c57 => ?_)
                        · refine j_aload_n 1 dX11_item_153 rfl ?_
                          refine j_iload_n 2 dX11_item_154 rfl ?_
                          refine j_iload_n 3 dX11_item_155 rfl ?_
                          refine j_callV (kc := 0) (ks := 0) (a := 0) (b := 0) (d' := (d + 2)) (As := [.int (nI v), .int (nI i)]) dX11_item_156 kX11_222 rfl (shM (Fm.M sm56 hM) sgM_0) (by omega) rfl rfl rfl (Nat.le_of_ble_eq_true rfl) (Nat.le_of_ble_eq_true rfl) (T_X11_isSo (Fm.M sm56 hM) hmR ok (nuV_pos hdg) h33 (w := v) (i := i) hv10 (by omega)) (kk_p ?_)
                          refine j_if_neB (p := (mayS S (soN v i) (nuV n t (q + 1)).1)) (tgt := 168) dX11_item_159 rfl (fun c58 => ?_) (fun c58 => ?_)
                          · refine j_aload_n 1 dX11_item_168 rfl ?_
                            refine j_getr (q := 21) dX11_item_169 fX11_87 (shM (Fm.M sm56 hM) sgM_0) rfl (rfM (Fm.M sm56 hM) rfM_0_29) ?_
                            refine j_iload_n 3 dX11_item_172 rfl ?_
                            refine j_aload_n 1 dX11_item_173 rfl ?_
                            refine j_getv (nuV n t (q + 1)).1 dX11_item_174 fX11_202 (shM (Fm.M sm56 hM) sgM_0) rfl h33 ?_
                            refine j_iastN i dX11_item_177 (shM (Fm.M sm56 hM) sgM_21) (by omega) (by omega) ?_
                            have sm59 : Fm PIt M (jk_wI M52 21 i (nuV n t (q + 1)).1) := Fm.w sm56 (by unfold PIt PH PQr; omega)
                            refine j_iinc 3 (nI (i + 1)) (L' := [(2, .int (nI (i + 1))), (3, .int (nI (q + 1))), (0, .ref 0), (1, .int (nI v))]) dX11_item_178 rfl (inc1 i) (by decide) rfl ?_
                            refine j_goto (tgt := 75) dX11_item_181 rfl ?_
                            exact j_sub (jk_pick [2, 3, 0] rfl) (ih7 (i + 1) ((nuV n t (q + 1)).2) (va_up vv i (nuV n t (q + 1)).1) (jk_wI M52 21 i (nuV n t (q + 1)).1) (by omega) (by omega) (nuL_y hnu (so_n hv10 (by omega)) (nuS_3 hsp hdg (by assumption))) sm59 (Fm.mv (P := fun q k => q = 21) (Fm.w Fm.rf rfl) hmR (fun q k h z => by unfold PH at h; omega)) (fun k hk => by
          by_cases e : k = i
          · rw [e, rd_s, va_up_self]
          · rw [rd_k e, va_up_ne _ _ e, Fm.rd h0R (by unfold PQr; omega)]; first | exact htl k (by omega) | exact (rd_o (by decide)).trans (htl k (by omega))) (Or.inr ⟨by omega, (rd_o (by decide)).trans h31⟩) (nuS_in (nuS_3 hsp hdg (by assumption))).2.2.2)
                          · refine j_aload_n 1 dX11_item_162 rfl ?_
                            refine j_iload_n 0 dX11_item_163 rfl ?_
                            refine j_callV (kc := 0) (ks := 0) (a := 0) (b := 0) (d' := d) (As := [.int (nI (q + 1))]) dX11_item_164 kX11_209 rfl (shM (Fm.M sm56 hM) sgM_0) (by omega) rfl rfl rfl (Nat.le_of_ble_eq_true rfl) (Nat.le_of_ble_eq_true rfl) (T_X11_wrong (Fm.M sm56 hM) (nI (q + 1))) (kk_p ?_)
                            have sm60 : Fm PIt M (jk_wI M52 0 34 (nI (q + 1))) := Fm.w sm56 (by unfold PIt PH PQr; omega)
                            refine j_zret dX11_item_167 rfl rfl ?_
                            have hf : nuL S n t v (p + jk_sL.getD v 0) 3 = .inl (q + 1) := nu_stop (by omega) (nuL_n hnu (so_n hv10 (by omega)) (nuS_2 hsp hdg (by assumption)))
                            exact hQ _ _ (Or.inr ⟨rfl, q + 1, itS_2 hwd hr3 hf, sm60, rd_s⟩)
                        · exact absurd c57 (by decide)
                      · obtain ⟨hdg, h0R, h34⟩ := hM55
                        have sm61 : Fm PIt M M54 := Fm.tr sm51 (Fm.mo h0R PQr_I)
                        refine j_if_ne (tgt := 153) dX11_item_148 rfl (fun c62 => ?_) (fun c62 => ?_)
                        · exact absurd c62 (by decide)
                        · refine j_iconst 0 dX11_item_151 ic_0 ?_
                          refine j_zret dX11_item_152 rfl rfl ?_
                          have hf : nuL S n t v (p + jk_sL.getD v 0) 3 = .inl (q + 1) := nu_stop (by omega) (nuL_n hnu (so_n hv10 (by omega)) (nuS_1 hsp hdg))
                          exact hQ _ _ (Or.inr ⟨rfl, q + 1, itS_2 hwd hr3 hf, sm61, h34⟩)
                    · refine j_aload_n 0 dX11_item_120 rfl ?_
                      refine j_aload_n 0 dX11_item_121 rfl ?_
                      refine j_getv (nI q) dX11_item_122 fX11_193 (shM (Fm.M hs1 hM) sgM_0) rfl (hpl.resolve_left (fun z => by omega)).2 ?_
                      refine j_callV (kc := 0) (ks := 0) (a := 0) (b := 0) (d' := d) (As := [.int (nI q)]) dX11_item_125 kX11_209 rfl (shM (Fm.M hs1 hM) sgM_0) (by omega) rfl rfl rfl (Nat.le_of_ble_eq_true rfl) (Nat.le_of_ble_eq_true rfl) (T_X11_wrong (Fm.M hs1 hM) (nI q)) (kk_p ?_)
                      have sm63 : Fm PIt M (jk_wI M1 0 34 (nI q)) := Fm.w hs1 (by unfold PIt PH PQr; omega)
                      refine j_zret dX11_item_128 rfl rfl ?_
                      have hf : nuL S n t v (p + jk_sL.getD v 0) 3 = .inl q := nu_stop (by omega) (nuL_n hnu (so_n hv10 (by omega)) (nuS_0 (fun z => by have z1 := z.1; have z2 := z.2; first | omega | exact absurd z2 (by assumption))))
                      exact hQ _ _ (Or.inr ⟨rfl, q, itS_2 hwd hr3 hf, sm63, rd_s⟩)
          exact j_sub (jk_pick [2, 1, 0] rfl) (lp8 _ 0 (p + jk_sL.getD v 0) (fun _ => 0) (jk_wI M 0 31 (nI (p + jk_sL.getD v 0 + 1))) (Nat.lt_succ_self _) (Nat.zero_le _) rfl sm4 hmW (fun k hk => absurd hk (Nat.not_lt_zero k)) (Or.inl ⟨rfl, rd_s, hspc⟩) (by omega))
        · exact absurd c5 (nI_n1 (by omega))
      · refine j_aload_n 0 dX11_item_43 rfl ?_
        refine j_getv (nI (nD S)) dX11_item_44 fX11_147 (shM hM sgM_0) rfl ((mr_D hS).trans (Sok.D ok).1) ?_
        refine j_bipush 6 dX11_item_47 bp_6 ?_
        refine j_icmp_neN (tgt := 61) (nD S) 6 dX11_item_49 rfl (by omega) (by omega) (fun c64 => ?_) (fun c64 => ?_)
        · have hroom : ∀ w, wdN n t p 10 = some w → roomS S w := fun w hw => ⟨(fun e => by first | omega | exact absurd (show mt n t p 1 = jk_sL.getD 1 0 by have q := (wd_lt 10 hw).2; rw [e] at q; exact q) (by assumption)), (fun e => by first | omega | exact absurd (show mt n t p 5 = jk_sL.getD 5 0 by have q := (wd_lt 10 hw).2; rw [e] at q; exact q) (by assumption)), (fun e => by first | omega | exact absurd (show mt n t p 6 = jk_sL.getD 6 0 by have q := (wd_lt 10 hw).2; rw [e] at q; exact q) (by assumption))⟩
          refine j_aload_n 0 dX11_item_61 rfl ?_
          refine j_callV (kc := 0) (ks := 0) (a := 0) (b := 0) (d' := d) (As := []) dX11_item_62 kX11_215 rfl (shM hM sgM_0) (by omega) rfl rfl rfl (Nat.le_of_ble_eq_true rfl) (Nat.le_of_ble_eq_true rfl) (T_wordS hM rx hp (by omega) v hv) (kk_p ?_)
          have sm65 : Fm PIt M (jk_wI M 0 31 (nI (p + jk_sL.getD v 0 + 1))) := Fm.w Fm.rf (by unfold PIt PH PQr; omega)
          refine j_istore_n (L' := [(1, .int (nI v)), (0, .ref 0)]) dX11_item_65 (by decide) rfl ?_
          have hr3 := hroom v hwd
          have hl9 := sL9 v hv10
          obtain ⟨-, hnb3, hnb1, -⟩ := nb_T v hv10
          have hmW : mv (jk_wI M 0 31 (nI (p + jk_sL.getD v 0 + 1))).2.1 = S := Fm.mv (P := PQr) (Fm.w Fm.rf (by unfold PQr; omega)) hS (fun q k h => by unfold PH at h; unfold PQr; omega)
          refine j_iload_n 0 dX11_item_66 rfl ?_
          refine j_iconst (-1) dX11_item_67 ic_n1 ?_
          refine j_icmp_ne (tgt := 73) dX11_item_68 rfl (fun c66 => ?_) (fun c66 => ?_)
          · refine j_iconst 0 dX11_item_73 ic_0 ?_
            refine j_istore_n (L' := [(2, .int 0), (1, .int (nI v)), (0, .ref 0)]) dX11_item_74 (by decide) rfl ?_
            have lp69 : ∀ (k67 : Nat) (i : Nat) (q : Nat) (vv : Nat → Int32) (M1 : jk_M), nbN v - i < k67 → (i ≤ nbN v) → (nuL S n t v (p + jk_sL.getD v 0) i = .inr (q, vv)) → (Fm PIt M M1) → (mv M1.2.1 = S) → (∀ k, k < i → M1.2.1 21 k = vv k) → ((i = 0 ∧ M1.2.1 0 31 = nI (q + 1) ∧ q < n ∧ t q = 32) ∨ (0 < i ∧ M1.2.1 0 31 = nI q)) → (q ≤ n) → J Fr_X11_item (d + 3) 0 0 75 [(0, .ref 0), (1, .int (nI v)), (2, .int (nI i))] [] M1 Q := by
              intro k67
              induction k67 with
              | zero => intro i q vv M1 hk; exact absurd hk (Nat.not_lt_zero _)
              | succ k67 ih68 =>
                intro i q vv M1 hk67 hi hnu hs1 hm1 htl hpl hqn
                refine j_iload_n 2 dX11_item_75 rfl ?_
                refine j_aload_n 0 dX11_item_76 rfl ?_
                refine j_getr (q := 20) dX11_item_77 fX11_84 (shM (Fm.M hs1 hM) sgM_0) rfl (rfM (Fm.M hs1 hM) rfM_0_28) ?_
                refine j_iload_n 1 dX11_item_80 rfl ?_
                refine j_ialdN v dX11_item_81 (shM (Fm.M hs1 hM) sgM_20) (by omega) (by omega) ?_
                refine j_topi (nI (nbN v)) (((RX.it rx hs1).2.2.2.2.2.2 _ (by omega)).trans (nb_T v hv10).1) ?_
                refine j_icmp_geN (tgt := 184) i (nbN v) dX11_item_82 rfl (by omega) (by omega) (fun c70 => ?_) (fun c70 => ?_)
                · have ei : i = nbN v := by omega
                  have hn3 := nu_end hv10 (by rw [← ei]; exact hnu)
                  have hmay := (nuL_may 3 _ _ hn3).1
                  have h31b : M1.2.1 0 31 = nI q := (hpl.resolve_left (fun z => by omega)).2
                  refine j_iload_n 1 dX11_item_184 rfl ?_
                  by_cases c72 : (nI v) = 0
                  · refine j_tableIn (tgt := 240) dX11_item_185 (by rw [c72]; decide) (by rw [c72]; decide) (off := 55) (by rw [c72]; decide) rfl ?_
                    have hvk : v = 0 := (nI_eq (by omega) (by omega)).mp (c72 : nI v = nI 0)
                    have hnbk : nbN v = 1 := by rw [hvk]; rfl
                    refine j_aload_n 0 dX11_item_240 rfl ?_
                    refine j_aload_n 0 dX11_item_241 rfl ?_
                    refine j_getr (q := 21) dX11_item_242 fX11_87 (shM (Fm.M hs1 hM) sgM_0) rfl (rfM (Fm.M hs1 hM) rfM_0_29) ?_
                    refine j_iconst 0 dX11_item_245 ic_0 ?_
                    refine j_ialdN 0 dX11_item_246 (shM (Fm.M hs1 hM) sgM_21) (by omega) (by omega) ?_
                    refine j_topi (vv 0) (htl _ (by omega)) ?_
                    refine j_put dX11_item_247 fX11_7 (shM (Fm.M hs1 hM) sgM_0) rfl ?_
                    have sm73 : Fm PIt M (jk_wI M1 0 3 (vv 0)) := Fm.w hs1 (by unfold PIt PH PQr; omega)
                    refine j_goto (tgt := 409) dX11_item_250 rfl ?_
                    refine j_iconst 1 dX11_item_409 ic_1 ?_
                    refine j_zret dX11_item_410 rfl rfl ?_
                    have hmv : mv (jk_wI M1 0 3 (vv 0)).2.1 = apS S v (vv 0) (vv 1) (vv 2) := by
                      rw [hvk]
                      exact mv_sc (a := 0) hm1 (by decide) (by decide) (by decide) (by decide)
                    have h31e : (jk_wI M1 0 3 (vv 0)).2.1 0 31 = nI q := (rd_p (by omega)).trans h31b
                    exact hQ _ _ (Or.inl ⟨rfl, _, q, itS_3 hwd hr3 hn3, sm73, hmv, h31e⟩)
                  by_cases c74 : (nI v) = 1
                  · refine j_tableIn (tgt := 253) dX11_item_185 (by rw [c74]; decide) (by rw [c74]; decide) (off := 68) (by rw [c74]; decide) rfl ?_
                    have hvk : v = 1 := (nI_eq (by omega) (by omega)).mp (c74 : nI v = nI 1)
                    have hnbk : nbN v = 3 := by rw [hvk]; rfl
                    obtain ⟨hr1, hr5, hr6⟩ := hr3
                    have hlt := hr1 hvk
                    have hr3 : roomS S v := ⟨hr1, hr5, hr6⟩
                    refine j_aload_n 0 dX11_item_253 rfl ?_
                    refine j_aload_n 0 dX11_item_254 rfl ?_
                    refine j_getr (q := 21) dX11_item_255 fX11_87 (shM (Fm.M hs1 hM) sgM_0) rfl (rfM (Fm.M hs1 hM) rfM_0_29) ?_
                    refine j_iconst 0 dX11_item_258 ic_0 ?_
                    refine j_ialdN 0 dX11_item_259 (shM (Fm.M hs1 hM) sgM_21) (by omega) (by omega) ?_
                    refine j_topi (vv 0) (htl _ (by omega)) ?_
                    refine j_aload_n 0 dX11_item_260 rfl ?_
                    refine j_getr (q := 21) dX11_item_261 fX11_87 (shM (Fm.M hs1 hM) sgM_0) rfl (rfM (Fm.M hs1 hM) rfM_0_29) ?_
                    refine j_iconst 1 dX11_item_264 ic_1 ?_
                    refine j_ialdN 1 dX11_item_265 (shM (Fm.M hs1 hM) sgM_21) (by omega) (by omega) ?_
                    refine j_topi (vv 1) (htl _ (by omega)) ?_
                    refine j_aload_n 0 dX11_item_266 rfl ?_
                    refine j_getr (q := 21) dX11_item_267 fX11_87 (shM (Fm.M hs1 hM) sgM_0) rfl (rfM (Fm.M hs1 hM) rfM_0_29) ?_
                    refine j_iconst 2 dX11_item_270 ic_2 ?_
                    refine j_ialdN 2 dX11_item_271 (shM (Fm.M hs1 hM) sgM_21) (by omega) (by omega) ?_
                    refine j_topi (vv 2) (htl _ (by omega)) ?_
                    refine j_callV (kc := 0) (ks := 0) (a := 0) (b := 0) (d' := d) (As := [.int (vv 0), .int (vv 1), .int (vv 2)]) dX11_item_272 kX11_157 rfl (shM (Fm.M hs1 hM) sgM_0) (by omega) rfl rfl rfl (Nat.le_of_ble_eq_true rfl) (Nat.le_of_ble_eq_true rfl) (T_X11_addsThing (Fm.M hs1 hM) hm1 ok (vv 0) (vv 1) (vv 2) hlt) (kk_e (fun M75 hM76 => ?_))
                    obtain ⟨h0A, hvA⟩ := hM76
                    have smA : Fm PIt M M75 := Fm.tr hs1 (Fm.mo h0A PA_I)
                    refine j_pop dX11_item_275 rfl ?_
                    refine j_goto (tgt := 409) dX11_item_276 rfl ?_
                    refine j_iconst 1 dX11_item_409 ic_1 ?_
                    refine j_zret dX11_item_410 rfl rfl ?_
                    have hmv : mv M75.2.1 = apS S v (vv 0) (vv 1) (vv 2) := by
                      rw [hvk]
                      exact hvA
                    have h31e : M75.2.1 0 31 = nI q := (Fm.rd h0A (by unfold PA; omega)).trans h31b
                    exact hQ _ _ (Or.inl ⟨rfl, _, q, itS_3 hwd hr3 hn3, smA, hmv, h31e⟩)
                  by_cases c77 : (nI v) = 2
                  · refine j_tableIn (tgt := 279) dX11_item_185 (by rw [c77]; decide) (by rw [c77]; decide) (off := 94) (by rw [c77]; decide) rfl ?_
                    have hvk : v = 2 := (nI_eq (by omega) (by omega)).mp (c77 : nI v = nI 2)
                    have hnbk : nbN v = 2 := by rw [hvk]; rfl
                    have hm0 : mayS S 4 (vv 0) := by have q := hmay 0 (by omega) (by rw [hvk]; decide); rw [hvk] at q; exact q
                    rw [may_4] at hm0
                    obtain ⟨j0, hj0, ej0⟩ := in2 hm0
                    refine j_aload_n 0 dX11_item_279 rfl ?_
                    refine j_getr (q := 12) dX11_item_280 fX11_59 (shM (Fm.M hs1 hM) sgM_0) rfl (rfM (Fm.M hs1 hM) rfM_0_20) ?_
                    refine j_aload_n 0 dX11_item_283 rfl ?_
                    refine j_getr (q := 21) dX11_item_284 fX11_87 (shM (Fm.M hs1 hM) sgM_0) rfl (rfM (Fm.M hs1 hM) rfM_0_29) ?_
                    refine j_iconst 0 dX11_item_287 ic_0 ?_
                    refine j_ialdN 0 dX11_item_288 (shM (Fm.M hs1 hM) sgM_21) (by omega) (by omega) ?_
                    refine j_topi (nI j0) ((htl 0 (by omega)).trans ej0) ?_
                    refine j_aload_n 0 dX11_item_289 rfl ?_
                    refine j_getr (q := 21) dX11_item_290 fX11_87 (shM (Fm.M hs1 hM) sgM_0) rfl (rfM (Fm.M hs1 hM) rfM_0_29) ?_
                    refine j_iconst 1 dX11_item_293 ic_1 ?_
                    refine j_ialdN 1 dX11_item_294 (shM (Fm.M hs1 hM) sgM_21) (by omega) (by omega) ?_
                    refine j_topi (vv 1) (htl _ (by omega)) ?_
                    refine j_iastN j0 dX11_item_295 (shM (Fm.M hs1 hM) sgM_12) (by omega) (by omega) ?_
                    have sm78 : Fm PIt M (jk_wI M1 12 j0 (vv 1)) := Fm.w hs1 (by unfold PIt PH PQr; omega)
                    refine j_goto (tgt := 409) dX11_item_296 rfl ?_
                    refine j_iconst 1 dX11_item_409 ic_1 ?_
                    refine j_zret dX11_item_410 rfl rfl ?_
                    have hmv : mv (jk_wI M1 12 j0 (vv 1)).2.1 = apS S v (vv 0) (vv 1) (vv 2) := by
                      rw [hvk]
                      refine (show mv (jk_wI M1 12 j0 (vv 1)).2.1 = if vv 0 = 0 then upS S 5 0 (vv 1) else upS S 6 0 (vv 1) from ?_)
                      rcases (show j0 = 0 ∨ j0 = 1 by omega) with e | e
                      · subst e; rw [if_pos (show vv 0 = 0 from ej0)]; exact mv_sc (a := 5) hm1 (by decide) (by decide) (by decide) (by decide)
                      · subst e; rw [if_neg (by rw [ej0]; decide)]; exact mv_sc (a := 6) hm1 (by decide) (by decide) (by decide) (by decide)
                    have h31e : (jk_wI M1 12 j0 (vv 1)).2.1 0 31 = nI q := (rd_p (by omega)).trans h31b
                    exact hQ _ _ (Or.inl ⟨rfl, _, q, itS_3 hwd hr3 hn3, sm78, hmv, h31e⟩)
                  by_cases c79 : (nI v) = 3
                  · refine j_tableIn (tgt := 299) dX11_item_185 (by rw [c79]; decide) (by rw [c79]; decide) (off := 114) (by rw [c79]; decide) rfl ?_
                    have hvk : v = 3 := (nI_eq (by omega) (by omega)).mp (c79 : nI v = nI 3)
                    have hnbk : nbN v = 1 := by rw [hvk]; rfl
                    refine j_aload_n 0 dX11_item_299 rfl ?_
                    refine j_iconst 0 dX11_item_300 ic_0 ?_
                    refine j_aload_n 0 dX11_item_301 rfl ?_
                    refine j_getr (q := 21) dX11_item_302 fX11_87 (shM (Fm.M hs1 hM) sgM_0) rfl (rfM (Fm.M hs1 hM) rfM_0_29) ?_
                    refine j_iconst 0 dX11_item_305 ic_0 ?_
                    refine j_ialdN 0 dX11_item_306 (shM (Fm.M hs1 hM) sgM_21) (by omega) (by omega) ?_
                    refine j_topi (vv 0) (htl _ (by omega)) ?_
                    refine j_callV (kc := 0) (ks := 0) (a := 0) (b := 0) (d' := d) (As := [.int 0, .int (vv 0)]) dX11_item_307 kX11_177 rfl (shM (Fm.M hs1 hM) sgM_0) (by omega) rfl rfl rfl (Nat.le_of_ble_eq_true rfl) (Nat.le_of_ble_eq_true rfl) (T_tells0 (Fm.M hs1 hM) (vv 0)) (kk_pv ?_)
                    have sm80 : Fm PIt M (jk_wI M1 0 4 (vv 0)) := Fm.w hs1 (by unfold PIt PH PQr; omega)
                    refine j_goto (tgt := 409) dX11_item_310 rfl ?_
                    refine j_iconst 1 dX11_item_409 ic_1 ?_
                    refine j_zret dX11_item_410 rfl rfl ?_
                    have hmv : mv (jk_wI M1 0 4 (vv 0)).2.1 = apS S v (vv 0) (vv 1) (vv 2) := by
                      rw [hvk]
                      exact mv_sc (a := 1) hm1 (by decide) (by decide) (by decide) (by decide)
                    have h31e : (jk_wI M1 0 4 (vv 0)).2.1 0 31 = nI q := (rd_p (by omega)).trans h31b
                    exact hQ _ _ (Or.inl ⟨rfl, _, q, itS_3 hwd hr3 hn3, sm80, hmv, h31e⟩)
                  by_cases c81 : (nI v) = 4
                  · refine j_tableIn (tgt := 313) dX11_item_185 (by rw [c81]; decide) (by rw [c81]; decide) (off := 128) (by rw [c81]; decide) rfl ?_
                    have hvk : v = 4 := (nI_eq (by omega) (by omega)).mp (c81 : nI v = nI 4)
                    have hnbk : nbN v = 1 := by rw [hvk]; rfl
                    refine j_aload_n 0 dX11_item_313 rfl ?_
                    refine j_iconst 1 dX11_item_314 ic_1 ?_
                    refine j_aload_n 0 dX11_item_315 rfl ?_
                    refine j_getr (q := 21) dX11_item_316 fX11_87 (shM (Fm.M hs1 hM) sgM_0) rfl (rfM (Fm.M hs1 hM) rfM_0_29) ?_
                    refine j_iconst 0 dX11_item_319 ic_0 ?_
                    refine j_ialdN 0 dX11_item_320 (shM (Fm.M hs1 hM) sgM_21) (by omega) (by omega) ?_
                    refine j_topi (vv 0) (htl _ (by omega)) ?_
                    refine j_callV (kc := 0) (ks := 0) (a := 0) (b := 0) (d' := d) (As := [.int 1, .int (vv 0)]) dX11_item_321 kX11_177 rfl (shM (Fm.M hs1 hM) sgM_0) (by omega) rfl rfl rfl (Nat.le_of_ble_eq_true rfl) (Nat.le_of_ble_eq_true rfl) (T_tells1 (Fm.M hs1 hM) (vv 0)) (kk_pv ?_)
                    have sm82 : Fm PIt M (jk_wI M1 0 5 (vv 0)) := Fm.w hs1 (by unfold PIt PH PQr; omega)
                    refine j_goto (tgt := 409) dX11_item_324 rfl ?_
                    refine j_iconst 1 dX11_item_409 ic_1 ?_
                    refine j_zret dX11_item_410 rfl rfl ?_
                    have hmv : mv (jk_wI M1 0 5 (vv 0)).2.1 = apS S v (vv 0) (vv 1) (vv 2) := by
                      rw [hvk]
                      exact mv_sc (a := 2) hm1 (by decide) (by decide) (by decide) (by decide)
                    have h31e : (jk_wI M1 0 5 (vv 0)).2.1 0 31 = nI q := (rd_p (by omega)).trans h31b
                    exact hQ _ _ (Or.inl ⟨rfl, _, q, itS_3 hwd hr3 hn3, sm82, hmv, h31e⟩)
                  by_cases c83 : (nI v) = 5
                  · refine j_tableIn (tgt := 327) dX11_item_185 (by rw [c83]; decide) (by rw [c83]; decide) (off := 142) (by rw [c83]; decide) rfl ?_
                    have hvk : v = 5 := (nI_eq (by omega) (by omega)).mp (c83 : nI v = nI 5)
                    have hnbk : nbN v = 2 := by rw [hvk]; rfl
                    obtain ⟨hr1, hr5, hr6⟩ := hr3
                    have hlt := hr5 hvk
                    have hr3 : roomS S v := ⟨hr1, hr5, hr6⟩
                    refine j_aload_n 0 dX11_item_327 rfl ?_
                    refine j_aload_n 0 dX11_item_328 rfl ?_
                    refine j_getr (q := 21) dX11_item_329 fX11_87 (shM (Fm.M hs1 hM) sgM_0) rfl (rfM (Fm.M hs1 hM) rfM_0_29) ?_
                    refine j_iconst 0 dX11_item_332 ic_0 ?_
                    refine j_ialdN 0 dX11_item_333 (shM (Fm.M hs1 hM) sgM_21) (by omega) (by omega) ?_
                    refine j_topi (vv 0) (htl _ (by omega)) ?_
                    refine j_aload_n 0 dX11_item_334 rfl ?_
                    refine j_getr (q := 21) dX11_item_335 fX11_87 (shM (Fm.M hs1 hM) sgM_0) rfl (rfM (Fm.M hs1 hM) rfM_0_29) ?_
                    refine j_iconst 1 dX11_item_338 ic_1 ?_
                    refine j_ialdN 1 dX11_item_339 (shM (Fm.M hs1 hM) sgM_21) (by omega) (by omega) ?_
                    refine j_topi (vv 1) (htl _ (by omega)) ?_
                    refine j_callV (kc := 0) (ks := 0) (a := 0) (b := 0) (d' := d) (As := [.int (vv 0), .int (vv 1)]) dX11_item_340 kX11_161 rfl (shM (Fm.M hs1 hM) sgM_0) (by omega) rfl rfl rfl (Nat.le_of_ble_eq_true rfl) (Nat.le_of_ble_eq_true rfl) (T_X11_addsNeighbour (Fm.M hs1 hM) hm1 ok (vv 0) (vv 1) hlt) (kk_e (fun M84 hM85 => ?_))
                    obtain ⟨h0A, hvA⟩ := hM85
                    have smA : Fm PIt M M84 := Fm.tr hs1 (Fm.mo h0A PA_I)
                    refine j_pop dX11_item_343 rfl ?_
                    refine j_goto (tgt := 409) dX11_item_344 rfl ?_
                    refine j_iconst 1 dX11_item_409 ic_1 ?_
                    refine j_zret dX11_item_410 rfl rfl ?_
                    have hmv : mv M84.2.1 = apS S v (vv 0) (vv 1) (vv 2) := by
                      rw [hvk]
                      exact hvA
                    have h31e : M84.2.1 0 31 = nI q := (Fm.rd h0A (by unfold PA; omega)).trans h31b
                    exact hQ _ _ (Or.inl ⟨rfl, _, q, itS_3 hwd hr3 hn3, smA, hmv, h31e⟩)
                  by_cases c86 : (nI v) = 6
                  · refine j_tableIn (tgt := 347) dX11_item_185 (by rw [c86]; decide) (by rw [c86]; decide) (off := 162) (by rw [c86]; decide) rfl ?_
                    have hvk : v = 6 := (nI_eq (by omega) (by omega)).mp (c86 : nI v = nI 6)
                    have hnbk : nbN v = 3 := by rw [hvk]; rfl
                    obtain ⟨hr1, hr5, hr6⟩ := hr3
                    have hlt := hr6 hvk
                    have hr3 : roomS S v := ⟨hr1, hr5, hr6⟩
                    refine j_aload_n 0 dX11_item_347 rfl ?_
                    refine j_aload_n 0 dX11_item_348 rfl ?_
                    refine j_getr (q := 21) dX11_item_349 fX11_87 (shM (Fm.M hs1 hM) sgM_0) rfl (rfM (Fm.M hs1 hM) rfM_0_29) ?_
                    refine j_iconst 0 dX11_item_352 ic_0 ?_
                    refine j_ialdN 0 dX11_item_353 (shM (Fm.M hs1 hM) sgM_21) (by omega) (by omega) ?_
                    refine j_topi (vv 0) (htl _ (by omega)) ?_
                    refine j_aload_n 0 dX11_item_354 rfl ?_
                    refine j_getr (q := 21) dX11_item_355 fX11_87 (shM (Fm.M hs1 hM) sgM_0) rfl (rfM (Fm.M hs1 hM) rfM_0_29) ?_
                    refine j_iconst 1 dX11_item_358 ic_1 ?_
                    refine j_ialdN 1 dX11_item_359 (shM (Fm.M hs1 hM) sgM_21) (by omega) (by omega) ?_
                    refine j_topi (vv 1) (htl _ (by omega)) ?_
                    refine j_aload_n 0 dX11_item_360 rfl ?_
                    refine j_getr (q := 21) dX11_item_361 fX11_87 (shM (Fm.M hs1 hM) sgM_0) rfl (rfM (Fm.M hs1 hM) rfM_0_29) ?_
                    refine j_iconst 2 dX11_item_364 ic_2 ?_
                    refine j_ialdN 2 dX11_item_365 (shM (Fm.M hs1 hM) sgM_21) (by omega) (by omega) ?_
                    refine j_topi (vv 2) (htl _ (by omega)) ?_
                    refine j_callV (kc := 0) (ks := 0) (a := 0) (b := 0) (d' := d) (As := [.int (vv 0), .int (vv 1), .int (vv 2)]) dX11_item_366 kX11_164 rfl (shM (Fm.M hs1 hM) sgM_0) (by omega) rfl rfl rfl (Nat.le_of_ble_eq_true rfl) (Nat.le_of_ble_eq_true rfl) (T_X11_addsDevice (Fm.M hs1 hM) hm1 ok (vv 0) (vv 1) (vv 2) hlt) (kk_e (fun M87 hM88 => ?_))
                    obtain ⟨h0A, hvA⟩ := hM88
                    have smA : Fm PIt M M87 := Fm.tr hs1 (Fm.mo h0A PA_I)
                    refine j_pop dX11_item_369 rfl ?_
                    refine j_goto (tgt := 409) dX11_item_370 rfl ?_
                    refine j_iconst 1 dX11_item_409 ic_1 ?_
                    refine j_zret dX11_item_410 rfl rfl ?_
                    have hmv : mv M87.2.1 = apS S v (vv 0) (vv 1) (vv 2) := by
                      rw [hvk]
                      exact hvA
                    have h31e : M87.2.1 0 31 = nI q := (Fm.rd h0A (by unfold PA; omega)).trans h31b
                    exact hQ _ _ (Or.inl ⟨rfl, _, q, itS_3 hwd hr3 hn3, smA, hmv, h31e⟩)
                  by_cases c89 : (nI v) = 7
                  · refine j_tableIn (tgt := 387) dX11_item_185 (by rw [c89]; decide) (by rw [c89]; decide) (off := 202) (by rw [c89]; decide) rfl ?_
                    have hvk : v = 7 := (nI_eq (by omega) (by omega)).mp (c89 : nI v = nI 7)
                    have hnbk : nbN v = 1 := by rw [hvk]; rfl
                    have hm0 : mayS S 10 (vv 0) := by have q := hmay 0 (by omega) (by rw [hvk]; decide); rw [hvk] at q; exact q
                    obtain ⟨j0, hj0, ej0⟩ := may10 ok hm0
                    refine j_aload_n 0 dX11_item_387 rfl ?_
                    refine j_getr (q := 5) dX11_item_388 fX11_38 (shM (Fm.M hs1 hM) sgM_0) rfl (rfM (Fm.M hs1 hM) rfM_0_13) ?_
                    refine j_aload_n 0 dX11_item_391 rfl ?_
                    refine j_getr (q := 21) dX11_item_392 fX11_87 (shM (Fm.M hs1 hM) sgM_0) rfl (rfM (Fm.M hs1 hM) rfM_0_29) ?_
                    refine j_iconst 0 dX11_item_395 ic_0 ?_
                    refine j_ialdN 0 dX11_item_396 (shM (Fm.M hs1 hM) sgM_21) (by omega) (by omega) ?_
                    refine j_topi (nI j0) ((htl 0 (by omega)).trans ej0) ?_
                    refine j_iload_n 1 dX11_item_397 rfl ?_
                    refine j_bipush 8 dX11_item_398 bp_8 ?_
                    refine j_icmp_neN (tgt := 407) v 8 dX11_item_400 rfl (by omega) (by omega) (fun c90 => ?_) (fun c90 => ?_)
                    · refine j_iconst 0 dX11_item_407 ic_0 ?_
                      refine j_iastN j0 dX11_item_408 (shM (Fm.M hs1 hM) sgM_5) (by omega) (by omega) ?_
                      have sm91 : Fm PIt M (jk_wI M1 5 j0 0) := Fm.w hs1 (by unfold PIt PH PQr; omega)
                      refine j_iconst 1 dX11_item_409 ic_1 ?_
                      refine j_zret dX11_item_410 rfl rfl ?_
                      have hmv : mv (jk_wI M1 5 j0 0).2.1 = apS S v (vv 0) (vv 1) (vv 2) := by
                        rw [hvk]
                        show mv (jk_wI M1 5 j0 0).2.1 = upS S 13 (vv 0).toNatClampNeg 0
                        rw [ej0, nI_clamp (by omega)]; exact mv_ar (a := 13) hm1 (by omega)
                      have h31e : (jk_wI M1 5 j0 0).2.1 0 31 = nI q := (rd_p (by omega)).trans h31b
                      exact hQ _ _ (Or.inl ⟨rfl, _, q, itS_3 hwd hr3 hn3, sm91, hmv, h31e⟩)
                    · exact absurd (hvk.symm.trans c90) (by decide)
                  by_cases c92 : (nI v) = 8
                  · refine j_tableIn (tgt := 387) dX11_item_185 (by rw [c92]; decide) (by rw [c92]; decide) (off := 202) (by rw [c92]; decide) rfl ?_
                    have hvk : v = 8 := (nI_eq (by omega) (by omega)).mp (c92 : nI v = nI 8)
                    have hnbk : nbN v = 1 := by rw [hvk]; rfl
                    have hm0 : mayS S 10 (vv 0) := by have q := hmay 0 (by omega) (by rw [hvk]; decide); rw [hvk] at q; exact q
                    obtain ⟨j0, hj0, ej0⟩ := may10 ok hm0
                    refine j_aload_n 0 dX11_item_387 rfl ?_
                    refine j_getr (q := 5) dX11_item_388 fX11_38 (shM (Fm.M hs1 hM) sgM_0) rfl (rfM (Fm.M hs1 hM) rfM_0_13) ?_
                    refine j_aload_n 0 dX11_item_391 rfl ?_
                    refine j_getr (q := 21) dX11_item_392 fX11_87 (shM (Fm.M hs1 hM) sgM_0) rfl (rfM (Fm.M hs1 hM) rfM_0_29) ?_
                    refine j_iconst 0 dX11_item_395 ic_0 ?_
                    refine j_ialdN 0 dX11_item_396 (shM (Fm.M hs1 hM) sgM_21) (by omega) (by omega) ?_
                    refine j_topi (nI j0) ((htl 0 (by omega)).trans ej0) ?_
                    refine j_iload_n 1 dX11_item_397 rfl ?_
                    refine j_bipush 8 dX11_item_398 bp_8 ?_
                    refine j_icmp_neN (tgt := 407) v 8 dX11_item_400 rfl (by omega) (by omega) (fun c93 => ?_) (fun c93 => ?_)
                    · exact absurd hvk c93
                    · refine j_iconst 1 dX11_item_403 ic_1 ?_
                      refine j_goto (tgt := 408) dX11_item_404 rfl ?_
                      refine j_iastN j0 dX11_item_408 (shM (Fm.M hs1 hM) sgM_5) (by omega) (by omega) ?_
                      have sm94 : Fm PIt M (jk_wI M1 5 j0 1) := Fm.w hs1 (by unfold PIt PH PQr; omega)
                      refine j_iconst 1 dX11_item_409 ic_1 ?_
                      refine j_zret dX11_item_410 rfl rfl ?_
                      have hmv : mv (jk_wI M1 5 j0 1).2.1 = apS S v (vv 0) (vv 1) (vv 2) := by
                        rw [hvk]
                        show mv (jk_wI M1 5 j0 1).2.1 = upS S 13 (vv 0).toNatClampNeg 1
                        rw [ej0, nI_clamp (by omega)]; exact mv_ar (a := 13) hm1 (by omega)
                      have h31e : (jk_wI M1 5 j0 1).2.1 0 31 = nI q := (rd_p (by omega)).trans h31b
                      exact hQ _ _ (Or.inl ⟨rfl, _, q, itS_3 hwd hr3 hn3, sm94, hmv, h31e⟩)
                  by_cases c95 : (nI v) = 9
                  · refine j_tableIn (tgt := 373) dX11_item_185 (by rw [c95]; decide) (by rw [c95]; decide) (off := 188) (by rw [c95]; decide) rfl ?_
                    have hvk : v = 9 := (nI_eq (by omega) (by omega)).mp (c95 : nI v = nI 9)
                    have hnbk : nbN v = 1 := by rw [hvk]; rfl
                    refine j_aload_n 0 dX11_item_373 rfl ?_
                    refine j_iconst 2 dX11_item_374 ic_2 ?_
                    refine j_aload_n 0 dX11_item_375 rfl ?_
                    refine j_getr (q := 21) dX11_item_376 fX11_87 (shM (Fm.M hs1 hM) sgM_0) rfl (rfM (Fm.M hs1 hM) rfM_0_29) ?_
                    refine j_iconst 0 dX11_item_379 ic_0 ?_
                    refine j_ialdN 0 dX11_item_380 (shM (Fm.M hs1 hM) sgM_21) (by omega) (by omega) ?_
                    refine j_topi (vv 0) (htl _ (by omega)) ?_
                    refine j_callV (kc := 0) (ks := 0) (a := 0) (b := 0) (d' := d) (As := [.int 2, .int (vv 0)]) dX11_item_381 kX11_177 rfl (shM (Fm.M hs1 hM) sgM_0) (by omega) rfl rfl rfl (Nat.le_of_ble_eq_true rfl) (Nat.le_of_ble_eq_true rfl) (T_tells2 (Fm.M hs1 hM) (vv 0)) (kk_pv ?_)
                    have sm96 : Fm PIt M (jk_wI M1 0 6 (vv 0)) := Fm.w hs1 (by unfold PIt PH PQr; omega)
                    refine j_goto (tgt := 409) dX11_item_384 rfl ?_
                    refine j_iconst 1 dX11_item_409 ic_1 ?_
                    refine j_zret dX11_item_410 rfl rfl ?_
                    have hmv : mv (jk_wI M1 0 6 (vv 0)).2.1 = apS S v (vv 0) (vv 1) (vv 2) := by
                      rw [hvk]
                      exact mv_sc (a := 3) hm1 (by decide) (by decide) (by decide) (by decide)
                    have h31e : (jk_wI M1 0 6 (vv 0)).2.1 0 31 = nI q := (rd_p (by omega)).trans h31b
                    exact hQ _ _ (Or.inl ⟨rfl, _, q, itS_3 hwd hr3 hn3, sm96, hmv, h31e⟩)
                  have hv10b : v = 0 ∨ v = 1 ∨ v = 2 ∨ v = 3 ∨ v = 4 ∨ v = 5 ∨ v = 6 ∨ v = 7 ∨ v = 8 ∨ v = 9 := by omega
                  exfalso
                  rcases hv10b with rfl | rfl | rfl | rfl | rfl | rfl | rfl | rfl | rfl | rfl
                  · exact c72 rfl
                  · exact c74 rfl
                  · exact c77 rfl
                  · exact c79 rfl
                  · exact c81 rfl
                  · exact c83 rfl
                  · exact c86 rfl
                  · exact c89 rfl
                  · exact c92 rfl
                  · exact c95 rfl
                · refine j_iload_n 2 dX11_item_85 rfl ?_
                  refine j_if_leN (tgt := 139) i dX11_item_86 (by omega) rfl (fun c97 => ?_) (fun c97 => ?_)
                  · refine j_aload_n 0 dX11_item_139 rfl ?_
                    refine j_getv (nI (q + 1)) dX11_item_140 fX11_193 (shM (Fm.M hs1 hM) sgM_0) rfl (hpl.resolve_right (fun z => by omega)).2.1 ?_
                    refine j_istore_n (L' := [(3, .int (nI (q + 1))), (0, .ref 0), (1, .int (nI v)), (2, .int (nI i))]) dX11_item_143 (by decide) rfl ?_
                    have hmB : mv M1.2.1 = S := hm1
                    have hp1 : M1.2.1 0 31 = nI (q + 1) := (hpl.resolve_right (fun z => by omega)).2.1
                    have hsp : q < n ∧ t q = 32 := by first | exact ⟨by omega, by assumption⟩ | exact (hpl.resolve_right (fun z => by omega)).2.2
                    refine j_aload_n 1 dX11_item_144 rfl ?_
                    refine j_callV (kc := 0) (ks := 0) (a := 0) (b := 0) (d' := (d + 1)) (As := []) dX11_item_145 kX11_219 rfl (shM (Fm.M hs1 hM) sgM_0) (by omega) rfl rfl rfl (Nat.le_of_ble_eq_true rfl) (Nat.le_of_ble_eq_true rfl) (T_X11_reads (Fm.M hs1 hM) (RX.it rx hs1) hp1 (by omega)) (kk_o (fun M98 hM99 => ?_) (fun M100 hM101 => ?_))
                    · obtain ⟨hdg, h0R, h33, h31⟩ := hM99
                      have sm102 : Fm PIt M M98 := Fm.tr hs1 (Fm.mo h0R PQr_I)
                      have hmR : mv M98.2.1 = S := Fm.mv h0R hmB (fun q k h => by unfold PH at h; unfold PQr; omega)
                      refine j_if_ne (tgt := 153) dX11_item_148 rfl (fun c103 => ?_) (fun c103 => ?_)
                      · refine j_aload_n 1 dX11_item_153 rfl ?_
                        refine j_iload_n 2 dX11_item_154 rfl ?_
                        refine j_iload_n 3 dX11_item_155 rfl ?_
                        refine j_callV (kc := 0) (ks := 0) (a := 0) (b := 0) (d' := (d + 2)) (As := [.int (nI v), .int (nI i)]) dX11_item_156 kX11_222 rfl (shM (Fm.M sm102 hM) sgM_0) (by omega) rfl rfl rfl (Nat.le_of_ble_eq_true rfl) (Nat.le_of_ble_eq_true rfl) (T_X11_isSo (Fm.M sm102 hM) hmR ok (nuV_pos hdg) h33 (w := v) (i := i) hv10 (by omega)) (kk_p ?_)
                        refine j_if_neB (p := (mayS S (soN v i) (nuV n t (q + 1)).1)) (tgt := 168) dX11_item_159 rfl (fun c104 => ?_) (fun c104 => ?_)
                        · refine j_aload_n 1 dX11_item_168 rfl ?_
                          refine j_getr (q := 21) dX11_item_169 fX11_87 (shM (Fm.M sm102 hM) sgM_0) rfl (rfM (Fm.M sm102 hM) rfM_0_29) ?_
                          refine j_iload_n 3 dX11_item_172 rfl ?_
                          refine j_aload_n 1 dX11_item_173 rfl ?_
                          refine j_getv (nuV n t (q + 1)).1 dX11_item_174 fX11_202 (shM (Fm.M sm102 hM) sgM_0) rfl h33 ?_
                          refine j_iastN i dX11_item_177 (shM (Fm.M sm102 hM) sgM_21) (by omega) (by omega) ?_
                          have sm105 : Fm PIt M (jk_wI M98 21 i (nuV n t (q + 1)).1) := Fm.w sm102 (by unfold PIt PH PQr; omega)
                          refine j_iinc 3 (nI (i + 1)) (L' := [(2, .int (nI (i + 1))), (3, .int (nI (q + 1))), (0, .ref 0), (1, .int (nI v))]) dX11_item_178 rfl (inc1 i) (by decide) rfl ?_
                          refine j_goto (tgt := 75) dX11_item_181 rfl ?_
                          exact j_sub (jk_pick [2, 3, 0] rfl) (ih68 (i + 1) ((nuV n t (q + 1)).2) (va_up vv i (nuV n t (q + 1)).1) (jk_wI M98 21 i (nuV n t (q + 1)).1) (by omega) (by omega) (nuL_y hnu (so_n hv10 (by omega)) (nuS_3 hsp hdg (by assumption))) sm105 (Fm.mv (P := fun q k => q = 21) (Fm.w Fm.rf rfl) hmR (fun q k h z => by unfold PH at h; omega)) (fun k hk => by
          by_cases e : k = i
          · rw [e, rd_s, va_up_self]
          · rw [rd_k e, va_up_ne _ _ e, Fm.rd h0R (by unfold PQr; omega)]; first | exact htl k (by omega) | exact (rd_o (by decide)).trans (htl k (by omega))) (Or.inr ⟨by omega, (rd_o (by decide)).trans h31⟩) (nuS_in (nuS_3 hsp hdg (by assumption))).2.2.2)
                        · refine j_aload_n 1 dX11_item_162 rfl ?_
                          refine j_iload_n 0 dX11_item_163 rfl ?_
                          refine j_callV (kc := 0) (ks := 0) (a := 0) (b := 0) (d' := d) (As := [.int (nI (q + 1))]) dX11_item_164 kX11_209 rfl (shM (Fm.M sm102 hM) sgM_0) (by omega) rfl rfl rfl (Nat.le_of_ble_eq_true rfl) (Nat.le_of_ble_eq_true rfl) (T_X11_wrong (Fm.M sm102 hM) (nI (q + 1))) (kk_p ?_)
                          have sm106 : Fm PIt M (jk_wI M98 0 34 (nI (q + 1))) := Fm.w sm102 (by unfold PIt PH PQr; omega)
                          refine j_zret dX11_item_167 rfl rfl ?_
                          have hf : nuL S n t v (p + jk_sL.getD v 0) 3 = .inl (q + 1) := nu_stop (by omega) (nuL_n hnu (so_n hv10 (by omega)) (nuS_2 hsp hdg (by assumption)))
                          exact hQ _ _ (Or.inr ⟨rfl, q + 1, itS_2 hwd hr3 hf, sm106, rd_s⟩)
                      · exact absurd c103 (by decide)
                    · obtain ⟨hdg, h0R, h34⟩ := hM101
                      have sm107 : Fm PIt M M100 := Fm.tr hs1 (Fm.mo h0R PQr_I)
                      refine j_if_ne (tgt := 153) dX11_item_148 rfl (fun c108 => ?_) (fun c108 => ?_)
                      · exact absurd c108 (by decide)
                      · refine j_iconst 0 dX11_item_151 ic_0 ?_
                        refine j_zret dX11_item_152 rfl rfl ?_
                        have hf : nuL S n t v (p + jk_sL.getD v 0) 3 = .inl (q + 1) := nu_stop (by omega) (nuL_n hnu (so_n hv10 (by omega)) (nuS_1 hsp hdg))
                        exact hQ _ _ (Or.inr ⟨rfl, q + 1, itS_2 hwd hr3 hf, sm107, h34⟩)
                  · refine j_aload_n 0 dX11_item_89 rfl ?_
                    refine j_getv (nI q) dX11_item_90 fX11_193 (shM (Fm.M hs1 hM) sgM_0) rfl (hpl.resolve_left (fun z => by omega)).2 ?_
                    refine j_aload_n 0 dX11_item_93 rfl ?_
                    refine j_getv (nI n) dX11_item_94 fX11_196 (shM (Fm.M hs1 hM) sgM_0) rfl (RX.it rx hs1).2.2.2.1 ?_
                    refine j_icmp_geN (tgt := 120) q n dX11_item_97 rfl (by omega) (by omega) (fun c109 => ?_) (fun c109 => ?_)
                    · refine j_aload_n 0 dX11_item_120 rfl ?_
                      refine j_aload_n 0 dX11_item_121 rfl ?_
                      refine j_getv (nI q) dX11_item_122 fX11_193 (shM (Fm.M hs1 hM) sgM_0) rfl (hpl.resolve_left (fun z => by omega)).2 ?_
                      refine j_callV (kc := 0) (ks := 0) (a := 0) (b := 0) (d' := d) (As := [.int (nI q)]) dX11_item_125 kX11_209 rfl (shM (Fm.M hs1 hM) sgM_0) (by omega) rfl rfl rfl (Nat.le_of_ble_eq_true rfl) (Nat.le_of_ble_eq_true rfl) (T_X11_wrong (Fm.M hs1 hM) (nI q)) (kk_p ?_)
                      have sm110 : Fm PIt M (jk_wI M1 0 34 (nI q)) := Fm.w hs1 (by unfold PIt PH PQr; omega)
                      refine j_zret dX11_item_128 rfl rfl ?_
                      have hf : nuL S n t v (p + jk_sL.getD v 0) 3 = .inl q := nu_stop (by omega) (nuL_n hnu (so_n hv10 (by omega)) (nuS_0 (fun z => by have z1 := z.1; have z2 := z.2; first | omega | exact absurd z2 (by assumption))))
                      exact hQ _ _ (Or.inr ⟨rfl, q, itS_2 hwd hr3 hf, sm110, rd_s⟩)
                    · refine j_aload_n 0 dX11_item_100 rfl ?_
                      refine j_getr (q := 17) dX11_item_101 fX11_74 (shM (Fm.M hs1 hM) sgM_0) rfl (rfM (Fm.M hs1 hM) rfM_0_25) ?_
                      refine j_aload_n 0 dX11_item_104 rfl ?_
                      refine j_getv (nI b) dX11_item_105 fX11_199 (shM (Fm.M hs1 hM) sgM_0) rfl (RX.it rx hs1).2.2.1 ?_
                      refine j_aload_n 0 dX11_item_108 rfl ?_
                      refine j_getv (nI q) dX11_item_109 fX11_193 (shM (Fm.M hs1 hM) sgM_0) rfl (hpl.resolve_left (fun z => by omega)).2 ?_
                      refine j_iaddN b q dX11_item_112 ?_
                      refine j_laldN (b + q) dX11_item_113 (shM (Fm.M hs1 hM) sgM_17) (by omega) (by omega) ?_
                      refine j_l2i dX11_item_114 ?_
                      refine j_topi (t q) ((RX.it rx hs1).2.2.2.2.1 _ (by omega)) ?_
                      refine j_bipush 32 dX11_item_115 bp_32 ?_
                      refine j_icmp_eq (tgt := 129) dX11_item_117 rfl (fun c111 => ?_) (fun c111 => ?_)
                      · refine j_aload_n 0 dX11_item_129 rfl ?_
                        refine j_dup dX11_item_130 rfl ?_
                        refine j_getv (nI q) dX11_item_131 fX11_193 (shM (Fm.M hs1 hM) sgM_0) rfl (hpl.resolve_left (fun z => by omega)).2 ?_
                        refine j_iconst 1 dX11_item_134 ic_1 ?_
                        refine j_iaddN q 1 dX11_item_135 ?_
                        refine j_put dX11_item_136 fX11_193 (shM (Fm.M hs1 hM) sgM_0) rfl ?_
                        have sm112 : Fm PIt M (jk_wI M1 0 31 (nI (q + 1))) := Fm.w hs1 (by unfold PIt PH PQr; omega)
                        refine j_aload_n 0 dX11_item_139 rfl ?_
                        refine j_getv (nI (q + 1)) dX11_item_140 fX11_193 (shM (Fm.M sm112 hM) sgM_0) rfl rd_s ?_
                        refine j_istore_n (L' := [(3, .int (nI (q + 1))), (0, .ref 0), (1, .int (nI v)), (2, .int (nI i))]) dX11_item_143 (by decide) rfl ?_
                        have hmB : mv (jk_wI M1 0 31 (nI (q + 1))).2.1 = S := (Fm.mv (P := PQr) (Fm.w Fm.rf (by unfold PQr; omega)) hm1 (fun q k h => by unfold PH at h; unfold PQr; omega))
                        have hp1 : (jk_wI M1 0 31 (nI (q + 1))).2.1 0 31 = nI (q + 1) := rd_s
                        have hsp : q < n ∧ t q = 32 := by first | exact ⟨by omega, by assumption⟩ | exact (hpl.resolve_right (fun z => by omega)).2.2
                        refine j_aload_n 1 dX11_item_144 rfl ?_
                        refine j_callV (kc := 0) (ks := 0) (a := 0) (b := 0) (d' := (d + 1)) (As := []) dX11_item_145 kX11_219 rfl (shM (Fm.M sm112 hM) sgM_0) (by omega) rfl rfl rfl (Nat.le_of_ble_eq_true rfl) (Nat.le_of_ble_eq_true rfl) (T_X11_reads (Fm.M sm112 hM) (RX.it rx sm112) hp1 (by omega)) (kk_o (fun M113 hM114 => ?_) (fun M115 hM116 => ?_))
                        · obtain ⟨hdg, h0R, h33, h31⟩ := hM114
                          have sm117 : Fm PIt M M113 := Fm.tr sm112 (Fm.mo h0R PQr_I)
                          have hmR : mv M113.2.1 = S := Fm.mv h0R hmB (fun q k h => by unfold PH at h; unfold PQr; omega)
                          refine j_if_ne (tgt := 153) dX11_item_148 rfl (fun c118 => ?_) (fun c118 => ?_)
                          · refine j_aload_n 1 dX11_item_153 rfl ?_
                            refine j_iload_n 2 dX11_item_154 rfl ?_
                            refine j_iload_n 3 dX11_item_155 rfl ?_
                            refine j_callV (kc := 0) (ks := 0) (a := 0) (b := 0) (d' := (d + 2)) (As := [.int (nI v), .int (nI i)]) dX11_item_156 kX11_222 rfl (shM (Fm.M sm117 hM) sgM_0) (by omega) rfl rfl rfl (Nat.le_of_ble_eq_true rfl) (Nat.le_of_ble_eq_true rfl) (T_X11_isSo (Fm.M sm117 hM) hmR ok (nuV_pos hdg) h33 (w := v) (i := i) hv10 (by omega)) (kk_p ?_)
                            refine j_if_neB (p := (mayS S (soN v i) (nuV n t (q + 1)).1)) (tgt := 168) dX11_item_159 rfl (fun c119 => ?_) (fun c119 => ?_)
                            · refine j_aload_n 1 dX11_item_168 rfl ?_
                              refine j_getr (q := 21) dX11_item_169 fX11_87 (shM (Fm.M sm117 hM) sgM_0) rfl (rfM (Fm.M sm117 hM) rfM_0_29) ?_
                              refine j_iload_n 3 dX11_item_172 rfl ?_
                              refine j_aload_n 1 dX11_item_173 rfl ?_
                              refine j_getv (nuV n t (q + 1)).1 dX11_item_174 fX11_202 (shM (Fm.M sm117 hM) sgM_0) rfl h33 ?_
                              refine j_iastN i dX11_item_177 (shM (Fm.M sm117 hM) sgM_21) (by omega) (by omega) ?_
                              have sm120 : Fm PIt M (jk_wI M113 21 i (nuV n t (q + 1)).1) := Fm.w sm117 (by unfold PIt PH PQr; omega)
                              refine j_iinc 3 (nI (i + 1)) (L' := [(2, .int (nI (i + 1))), (3, .int (nI (q + 1))), (0, .ref 0), (1, .int (nI v))]) dX11_item_178 rfl (inc1 i) (by decide) rfl ?_
                              refine j_goto (tgt := 75) dX11_item_181 rfl ?_
                              exact j_sub (jk_pick [2, 3, 0] rfl) (ih68 (i + 1) ((nuV n t (q + 1)).2) (va_up vv i (nuV n t (q + 1)).1) (jk_wI M113 21 i (nuV n t (q + 1)).1) (by omega) (by omega) (nuL_y hnu (so_n hv10 (by omega)) (nuS_3 hsp hdg (by assumption))) sm120 (Fm.mv (P := fun q k => q = 21) (Fm.w Fm.rf rfl) hmR (fun q k h z => by unfold PH at h; omega)) (fun k hk => by
          by_cases e : k = i
          · rw [e, rd_s, va_up_self]
          · rw [rd_k e, va_up_ne _ _ e, Fm.rd h0R (by unfold PQr; omega)]; first | exact htl k (by omega) | exact (rd_o (by decide)).trans (htl k (by omega))) (Or.inr ⟨by omega, (rd_o (by decide)).trans h31⟩) (nuS_in (nuS_3 hsp hdg (by assumption))).2.2.2)
                            · refine j_aload_n 1 dX11_item_162 rfl ?_
                              refine j_iload_n 0 dX11_item_163 rfl ?_
                              refine j_callV (kc := 0) (ks := 0) (a := 0) (b := 0) (d' := d) (As := [.int (nI (q + 1))]) dX11_item_164 kX11_209 rfl (shM (Fm.M sm117 hM) sgM_0) (by omega) rfl rfl rfl (Nat.le_of_ble_eq_true rfl) (Nat.le_of_ble_eq_true rfl) (T_X11_wrong (Fm.M sm117 hM) (nI (q + 1))) (kk_p ?_)
                              have sm121 : Fm PIt M (jk_wI M113 0 34 (nI (q + 1))) := Fm.w sm117 (by unfold PIt PH PQr; omega)
                              refine j_zret dX11_item_167 rfl rfl ?_
                              have hf : nuL S n t v (p + jk_sL.getD v 0) 3 = .inl (q + 1) := nu_stop (by omega) (nuL_n hnu (so_n hv10 (by omega)) (nuS_2 hsp hdg (by assumption)))
                              exact hQ _ _ (Or.inr ⟨rfl, q + 1, itS_2 hwd hr3 hf, sm121, rd_s⟩)
                          · exact absurd c118 (by decide)
                        · obtain ⟨hdg, h0R, h34⟩ := hM116
                          have sm122 : Fm PIt M M115 := Fm.tr sm112 (Fm.mo h0R PQr_I)
                          refine j_if_ne (tgt := 153) dX11_item_148 rfl (fun c123 => ?_) (fun c123 => ?_)
                          · exact absurd c123 (by decide)
                          · refine j_iconst 0 dX11_item_151 ic_0 ?_
                            refine j_zret dX11_item_152 rfl rfl ?_
                            have hf : nuL S n t v (p + jk_sL.getD v 0) 3 = .inl (q + 1) := nu_stop (by omega) (nuL_n hnu (so_n hv10 (by omega)) (nuS_1 hsp hdg))
                            exact hQ _ _ (Or.inr ⟨rfl, q + 1, itS_2 hwd hr3 hf, sm122, h34⟩)
                      · refine j_aload_n 0 dX11_item_120 rfl ?_
                        refine j_aload_n 0 dX11_item_121 rfl ?_
                        refine j_getv (nI q) dX11_item_122 fX11_193 (shM (Fm.M hs1 hM) sgM_0) rfl (hpl.resolve_left (fun z => by omega)).2 ?_
                        refine j_callV (kc := 0) (ks := 0) (a := 0) (b := 0) (d' := d) (As := [.int (nI q)]) dX11_item_125 kX11_209 rfl (shM (Fm.M hs1 hM) sgM_0) (by omega) rfl rfl rfl (Nat.le_of_ble_eq_true rfl) (Nat.le_of_ble_eq_true rfl) (T_X11_wrong (Fm.M hs1 hM) (nI q)) (kk_p ?_)
                        have sm124 : Fm PIt M (jk_wI M1 0 34 (nI q)) := Fm.w hs1 (by unfold PIt PH PQr; omega)
                        refine j_zret dX11_item_128 rfl rfl ?_
                        have hf : nuL S n t v (p + jk_sL.getD v 0) 3 = .inl q := nu_stop (by omega) (nuL_n hnu (so_n hv10 (by omega)) (nuS_0 (fun z => by have z1 := z.1; have z2 := z.2; first | omega | exact absurd z2 (by assumption))))
                        exact hQ _ _ (Or.inr ⟨rfl, q, itS_2 hwd hr3 hf, sm124, rd_s⟩)
            exact j_sub (jk_pick [2, 1, 0] rfl) (lp69 _ 0 (p + jk_sL.getD v 0) (fun _ => 0) (jk_wI M 0 31 (nI (p + jk_sL.getD v 0 + 1))) (Nat.lt_succ_self _) (Nat.zero_le _) rfl sm65 hmW (fun k hk => absurd hk (Nat.not_lt_zero k)) (Or.inl ⟨rfl, rd_s, hspc⟩) (by omega))
          · exact absurd c66 (nI_n1 (by omega))
        · refine j_aload_n 0 dX11_item_52 rfl ?_
          refine j_aload_n 0 dX11_item_53 rfl ?_
          refine j_getv (nI p) dX11_item_54 fX11_193 (shM hM sgM_0) rfl hp ?_
          refine j_callV (kc := 0) (ks := 0) (a := 0) (b := 0) (d' := d) (As := [.int (nI p)]) dX11_item_57 kX11_209 rfl (shM hM sgM_0) (by omega) rfl rfl rfl (Nat.le_of_ble_eq_true rfl) (Nat.le_of_ble_eq_true rfl) (T_X11_wrong hM (nI p)) (kk_p ?_)
          have sm125 : Fm PIt M (jk_wI M 0 34 (nI p)) := Fm.w Fm.rf (by unfold PIt PH PQr; omega)
          refine j_zret dX11_item_60 rfl rfl ?_
          exact hQ _ _ (Or.inr ⟨rfl, p, itS_1 (wd_of (w := 6) (by decide) (by assumption)) (fun z => by have q := z.2.2 rfl; omega), sm125, rd_s⟩)
    · refine j_aload_n 0 dX11_item_25 rfl ?_
      refine j_getv (nI (nN S)) dX11_item_26 fX11_144 (shM hM sgM_0) rfl ((mr_N hS).trans (Sok.N ok).1) ?_
      refine j_bipush 8 dX11_item_29 bp_8 ?_
      refine j_icmp_eqN (tgt := 52) (nN S) 8 dX11_item_31 rfl (by omega) (by omega) (fun c126 => ?_) (fun c126 => ?_)
      · refine j_aload_n 0 dX11_item_52 rfl ?_
        refine j_aload_n 0 dX11_item_53 rfl ?_
        refine j_getv (nI p) dX11_item_54 fX11_193 (shM hM sgM_0) rfl hp ?_
        refine j_callV (kc := 0) (ks := 0) (a := 0) (b := 0) (d' := d) (As := [.int (nI p)]) dX11_item_57 kX11_209 rfl (shM hM sgM_0) (by omega) rfl rfl rfl (Nat.le_of_ble_eq_true rfl) (Nat.le_of_ble_eq_true rfl) (T_X11_wrong hM (nI p)) (kk_p ?_)
        have sm127 : Fm PIt M (jk_wI M 0 34 (nI p)) := Fm.w Fm.rf (by unfold PIt PH PQr; omega)
        refine j_zret dX11_item_60 rfl rfl ?_
        exact hQ _ _ (Or.inr ⟨rfl, p, itS_1 (wd_of (w := 5) (by decide) (by assumption)) (fun z => by have q := z.2.1 rfl; omega), sm127, rd_s⟩)
      · refine j_aload_n 0 dX11_item_34 rfl ?_
        refine j_bipush 6 dX11_item_35 bp_6 ?_
        refine j_callV (kc := 0) (ks := 0) (a := 0) (b := 0) (d' := d) (As := [.int 6]) dX11_item_37 kX11_212 rfl (shM hM sgM_0) (by omega) rfl rfl rfl (Nat.le_of_ble_eq_true rfl) (Nat.le_of_ble_eq_true rfl) (T_X11_stands hM rx hp (by omega) (w := 6) (by decide)) (kk_p ?_)
        refine j_if_eqB (p := (mt n t p 6 = jk_sL.getD 6 0)) (tgt := 61) dX11_item_40 rfl (fun c128 => ?_) (fun c128 => ?_)
        · have hroom : ∀ w, wdN n t p 10 = some w → roomS S w := fun w hw => ⟨(fun e => by first | omega | exact absurd (show mt n t p 1 = jk_sL.getD 1 0 by have q := (wd_lt 10 hw).2; rw [e] at q; exact q) (by assumption)), (fun e => by first | omega | exact absurd (show mt n t p 5 = jk_sL.getD 5 0 by have q := (wd_lt 10 hw).2; rw [e] at q; exact q) (by assumption)), (fun e => by first | omega | exact absurd (show mt n t p 6 = jk_sL.getD 6 0 by have q := (wd_lt 10 hw).2; rw [e] at q; exact q) (by assumption))⟩
          refine j_aload_n 0 dX11_item_61 rfl ?_
          refine j_callV (kc := 0) (ks := 0) (a := 0) (b := 0) (d' := d) (As := []) dX11_item_62 kX11_215 rfl (shM hM sgM_0) (by omega) rfl rfl rfl (Nat.le_of_ble_eq_true rfl) (Nat.le_of_ble_eq_true rfl) (T_wordS hM rx hp (by omega) v hv) (kk_p ?_)
          have sm129 : Fm PIt M (jk_wI M 0 31 (nI (p + jk_sL.getD v 0 + 1))) := Fm.w Fm.rf (by unfold PIt PH PQr; omega)
          refine j_istore_n (L' := [(1, .int (nI v)), (0, .ref 0)]) dX11_item_65 (by decide) rfl ?_
          have hr3 := hroom v hwd
          have hl9 := sL9 v hv10
          obtain ⟨-, hnb3, hnb1, -⟩ := nb_T v hv10
          have hmW : mv (jk_wI M 0 31 (nI (p + jk_sL.getD v 0 + 1))).2.1 = S := Fm.mv (P := PQr) (Fm.w Fm.rf (by unfold PQr; omega)) hS (fun q k h => by unfold PH at h; unfold PQr; omega)
          refine j_iload_n 0 dX11_item_66 rfl ?_
          refine j_iconst (-1) dX11_item_67 ic_n1 ?_
          refine j_icmp_ne (tgt := 73) dX11_item_68 rfl (fun c130 => ?_) (fun c130 => ?_)
          · refine j_iconst 0 dX11_item_73 ic_0 ?_
            refine j_istore_n (L' := [(2, .int 0), (1, .int (nI v)), (0, .ref 0)]) dX11_item_74 (by decide) rfl ?_
            have lp133 : ∀ (k131 : Nat) (i : Nat) (q : Nat) (vv : Nat → Int32) (M1 : jk_M), nbN v - i < k131 → (i ≤ nbN v) → (nuL S n t v (p + jk_sL.getD v 0) i = .inr (q, vv)) → (Fm PIt M M1) → (mv M1.2.1 = S) → (∀ k, k < i → M1.2.1 21 k = vv k) → ((i = 0 ∧ M1.2.1 0 31 = nI (q + 1) ∧ q < n ∧ t q = 32) ∨ (0 < i ∧ M1.2.1 0 31 = nI q)) → (q ≤ n) → J Fr_X11_item (d + 3) 0 0 75 [(0, .ref 0), (1, .int (nI v)), (2, .int (nI i))] [] M1 Q := by
              intro k131
              induction k131 with
              | zero => intro i q vv M1 hk; exact absurd hk (Nat.not_lt_zero _)
              | succ k131 ih132 =>
                intro i q vv M1 hk131 hi hnu hs1 hm1 htl hpl hqn
                refine j_iload_n 2 dX11_item_75 rfl ?_
                refine j_aload_n 0 dX11_item_76 rfl ?_
                refine j_getr (q := 20) dX11_item_77 fX11_84 (shM (Fm.M hs1 hM) sgM_0) rfl (rfM (Fm.M hs1 hM) rfM_0_28) ?_
                refine j_iload_n 1 dX11_item_80 rfl ?_
                refine j_ialdN v dX11_item_81 (shM (Fm.M hs1 hM) sgM_20) (by omega) (by omega) ?_
                refine j_topi (nI (nbN v)) (((RX.it rx hs1).2.2.2.2.2.2 _ (by omega)).trans (nb_T v hv10).1) ?_
                refine j_icmp_geN (tgt := 184) i (nbN v) dX11_item_82 rfl (by omega) (by omega) (fun c134 => ?_) (fun c134 => ?_)
                · have ei : i = nbN v := by omega
                  have hn3 := nu_end hv10 (by rw [← ei]; exact hnu)
                  have hmay := (nuL_may 3 _ _ hn3).1
                  have h31b : M1.2.1 0 31 = nI q := (hpl.resolve_left (fun z => by omega)).2
                  refine j_iload_n 1 dX11_item_184 rfl ?_
                  by_cases c136 : (nI v) = 0
                  · refine j_tableIn (tgt := 240) dX11_item_185 (by rw [c136]; decide) (by rw [c136]; decide) (off := 55) (by rw [c136]; decide) rfl ?_
                    have hvk : v = 0 := (nI_eq (by omega) (by omega)).mp (c136 : nI v = nI 0)
                    have hnbk : nbN v = 1 := by rw [hvk]; rfl
                    refine j_aload_n 0 dX11_item_240 rfl ?_
                    refine j_aload_n 0 dX11_item_241 rfl ?_
                    refine j_getr (q := 21) dX11_item_242 fX11_87 (shM (Fm.M hs1 hM) sgM_0) rfl (rfM (Fm.M hs1 hM) rfM_0_29) ?_
                    refine j_iconst 0 dX11_item_245 ic_0 ?_
                    refine j_ialdN 0 dX11_item_246 (shM (Fm.M hs1 hM) sgM_21) (by omega) (by omega) ?_
                    refine j_topi (vv 0) (htl _ (by omega)) ?_
                    refine j_put dX11_item_247 fX11_7 (shM (Fm.M hs1 hM) sgM_0) rfl ?_
                    have sm137 : Fm PIt M (jk_wI M1 0 3 (vv 0)) := Fm.w hs1 (by unfold PIt PH PQr; omega)
                    refine j_goto (tgt := 409) dX11_item_250 rfl ?_
                    refine j_iconst 1 dX11_item_409 ic_1 ?_
                    refine j_zret dX11_item_410 rfl rfl ?_
                    have hmv : mv (jk_wI M1 0 3 (vv 0)).2.1 = apS S v (vv 0) (vv 1) (vv 2) := by
                      rw [hvk]
                      exact mv_sc (a := 0) hm1 (by decide) (by decide) (by decide) (by decide)
                    have h31e : (jk_wI M1 0 3 (vv 0)).2.1 0 31 = nI q := (rd_p (by omega)).trans h31b
                    exact hQ _ _ (Or.inl ⟨rfl, _, q, itS_3 hwd hr3 hn3, sm137, hmv, h31e⟩)
                  by_cases c138 : (nI v) = 1
                  · refine j_tableIn (tgt := 253) dX11_item_185 (by rw [c138]; decide) (by rw [c138]; decide) (off := 68) (by rw [c138]; decide) rfl ?_
                    have hvk : v = 1 := (nI_eq (by omega) (by omega)).mp (c138 : nI v = nI 1)
                    have hnbk : nbN v = 3 := by rw [hvk]; rfl
                    obtain ⟨hr1, hr5, hr6⟩ := hr3
                    have hlt := hr1 hvk
                    have hr3 : roomS S v := ⟨hr1, hr5, hr6⟩
                    refine j_aload_n 0 dX11_item_253 rfl ?_
                    refine j_aload_n 0 dX11_item_254 rfl ?_
                    refine j_getr (q := 21) dX11_item_255 fX11_87 (shM (Fm.M hs1 hM) sgM_0) rfl (rfM (Fm.M hs1 hM) rfM_0_29) ?_
                    refine j_iconst 0 dX11_item_258 ic_0 ?_
                    refine j_ialdN 0 dX11_item_259 (shM (Fm.M hs1 hM) sgM_21) (by omega) (by omega) ?_
                    refine j_topi (vv 0) (htl _ (by omega)) ?_
                    refine j_aload_n 0 dX11_item_260 rfl ?_
                    refine j_getr (q := 21) dX11_item_261 fX11_87 (shM (Fm.M hs1 hM) sgM_0) rfl (rfM (Fm.M hs1 hM) rfM_0_29) ?_
                    refine j_iconst 1 dX11_item_264 ic_1 ?_
                    refine j_ialdN 1 dX11_item_265 (shM (Fm.M hs1 hM) sgM_21) (by omega) (by omega) ?_
                    refine j_topi (vv 1) (htl _ (by omega)) ?_
                    refine j_aload_n 0 dX11_item_266 rfl ?_
                    refine j_getr (q := 21) dX11_item_267 fX11_87 (shM (Fm.M hs1 hM) sgM_0) rfl (rfM (Fm.M hs1 hM) rfM_0_29) ?_
                    refine j_iconst 2 dX11_item_270 ic_2 ?_
                    refine j_ialdN 2 dX11_item_271 (shM (Fm.M hs1 hM) sgM_21) (by omega) (by omega) ?_
                    refine j_topi (vv 2) (htl _ (by omega)) ?_
                    refine j_callV (kc := 0) (ks := 0) (a := 0) (b := 0) (d' := d) (As := [.int (vv 0), .int (vv 1), .int (vv 2)]) dX11_item_272 kX11_157 rfl (shM (Fm.M hs1 hM) sgM_0) (by omega) rfl rfl rfl (Nat.le_of_ble_eq_true rfl) (Nat.le_of_ble_eq_true rfl) (T_X11_addsThing (Fm.M hs1 hM) hm1 ok (vv 0) (vv 1) (vv 2) hlt) (kk_e (fun M139 hM140 => ?_))
                    obtain ⟨h0A, hvA⟩ := hM140
                    have smA : Fm PIt M M139 := Fm.tr hs1 (Fm.mo h0A PA_I)
                    refine j_pop dX11_item_275 rfl ?_
                    refine j_goto (tgt := 409) dX11_item_276 rfl ?_
                    refine j_iconst 1 dX11_item_409 ic_1 ?_
                    refine j_zret dX11_item_410 rfl rfl ?_
                    have hmv : mv M139.2.1 = apS S v (vv 0) (vv 1) (vv 2) := by
                      rw [hvk]
                      exact hvA
                    have h31e : M139.2.1 0 31 = nI q := (Fm.rd h0A (by unfold PA; omega)).trans h31b
                    exact hQ _ _ (Or.inl ⟨rfl, _, q, itS_3 hwd hr3 hn3, smA, hmv, h31e⟩)
                  by_cases c141 : (nI v) = 2
                  · refine j_tableIn (tgt := 279) dX11_item_185 (by rw [c141]; decide) (by rw [c141]; decide) (off := 94) (by rw [c141]; decide) rfl ?_
                    have hvk : v = 2 := (nI_eq (by omega) (by omega)).mp (c141 : nI v = nI 2)
                    have hnbk : nbN v = 2 := by rw [hvk]; rfl
                    have hm0 : mayS S 4 (vv 0) := by have q := hmay 0 (by omega) (by rw [hvk]; decide); rw [hvk] at q; exact q
                    rw [may_4] at hm0
                    obtain ⟨j0, hj0, ej0⟩ := in2 hm0
                    refine j_aload_n 0 dX11_item_279 rfl ?_
                    refine j_getr (q := 12) dX11_item_280 fX11_59 (shM (Fm.M hs1 hM) sgM_0) rfl (rfM (Fm.M hs1 hM) rfM_0_20) ?_
                    refine j_aload_n 0 dX11_item_283 rfl ?_
                    refine j_getr (q := 21) dX11_item_284 fX11_87 (shM (Fm.M hs1 hM) sgM_0) rfl (rfM (Fm.M hs1 hM) rfM_0_29) ?_
                    refine j_iconst 0 dX11_item_287 ic_0 ?_
                    refine j_ialdN 0 dX11_item_288 (shM (Fm.M hs1 hM) sgM_21) (by omega) (by omega) ?_
                    refine j_topi (nI j0) ((htl 0 (by omega)).trans ej0) ?_
                    refine j_aload_n 0 dX11_item_289 rfl ?_
                    refine j_getr (q := 21) dX11_item_290 fX11_87 (shM (Fm.M hs1 hM) sgM_0) rfl (rfM (Fm.M hs1 hM) rfM_0_29) ?_
                    refine j_iconst 1 dX11_item_293 ic_1 ?_
                    refine j_ialdN 1 dX11_item_294 (shM (Fm.M hs1 hM) sgM_21) (by omega) (by omega) ?_
                    refine j_topi (vv 1) (htl _ (by omega)) ?_
                    refine j_iastN j0 dX11_item_295 (shM (Fm.M hs1 hM) sgM_12) (by omega) (by omega) ?_
                    have sm142 : Fm PIt M (jk_wI M1 12 j0 (vv 1)) := Fm.w hs1 (by unfold PIt PH PQr; omega)
                    refine j_goto (tgt := 409) dX11_item_296 rfl ?_
                    refine j_iconst 1 dX11_item_409 ic_1 ?_
                    refine j_zret dX11_item_410 rfl rfl ?_
                    have hmv : mv (jk_wI M1 12 j0 (vv 1)).2.1 = apS S v (vv 0) (vv 1) (vv 2) := by
                      rw [hvk]
                      refine (show mv (jk_wI M1 12 j0 (vv 1)).2.1 = if vv 0 = 0 then upS S 5 0 (vv 1) else upS S 6 0 (vv 1) from ?_)
                      rcases (show j0 = 0 ∨ j0 = 1 by omega) with e | e
                      · subst e; rw [if_pos (show vv 0 = 0 from ej0)]; exact mv_sc (a := 5) hm1 (by decide) (by decide) (by decide) (by decide)
                      · subst e; rw [if_neg (by rw [ej0]; decide)]; exact mv_sc (a := 6) hm1 (by decide) (by decide) (by decide) (by decide)
                    have h31e : (jk_wI M1 12 j0 (vv 1)).2.1 0 31 = nI q := (rd_p (by omega)).trans h31b
                    exact hQ _ _ (Or.inl ⟨rfl, _, q, itS_3 hwd hr3 hn3, sm142, hmv, h31e⟩)
                  by_cases c143 : (nI v) = 3
                  · refine j_tableIn (tgt := 299) dX11_item_185 (by rw [c143]; decide) (by rw [c143]; decide) (off := 114) (by rw [c143]; decide) rfl ?_
                    have hvk : v = 3 := (nI_eq (by omega) (by omega)).mp (c143 : nI v = nI 3)
                    have hnbk : nbN v = 1 := by rw [hvk]; rfl
                    refine j_aload_n 0 dX11_item_299 rfl ?_
                    refine j_iconst 0 dX11_item_300 ic_0 ?_
                    refine j_aload_n 0 dX11_item_301 rfl ?_
                    refine j_getr (q := 21) dX11_item_302 fX11_87 (shM (Fm.M hs1 hM) sgM_0) rfl (rfM (Fm.M hs1 hM) rfM_0_29) ?_
                    refine j_iconst 0 dX11_item_305 ic_0 ?_
                    refine j_ialdN 0 dX11_item_306 (shM (Fm.M hs1 hM) sgM_21) (by omega) (by omega) ?_
                    refine j_topi (vv 0) (htl _ (by omega)) ?_
                    refine j_callV (kc := 0) (ks := 0) (a := 0) (b := 0) (d' := d) (As := [.int 0, .int (vv 0)]) dX11_item_307 kX11_177 rfl (shM (Fm.M hs1 hM) sgM_0) (by omega) rfl rfl rfl (Nat.le_of_ble_eq_true rfl) (Nat.le_of_ble_eq_true rfl) (T_tells0 (Fm.M hs1 hM) (vv 0)) (kk_pv ?_)
                    have sm144 : Fm PIt M (jk_wI M1 0 4 (vv 0)) := Fm.w hs1 (by unfold PIt PH PQr; omega)
                    refine j_goto (tgt := 409) dX11_item_310 rfl ?_
                    refine j_iconst 1 dX11_item_409 ic_1 ?_
                    refine j_zret dX11_item_410 rfl rfl ?_
                    have hmv : mv (jk_wI M1 0 4 (vv 0)).2.1 = apS S v (vv 0) (vv 1) (vv 2) := by
                      rw [hvk]
                      exact mv_sc (a := 1) hm1 (by decide) (by decide) (by decide) (by decide)
                    have h31e : (jk_wI M1 0 4 (vv 0)).2.1 0 31 = nI q := (rd_p (by omega)).trans h31b
                    exact hQ _ _ (Or.inl ⟨rfl, _, q, itS_3 hwd hr3 hn3, sm144, hmv, h31e⟩)
                  by_cases c145 : (nI v) = 4
                  · refine j_tableIn (tgt := 313) dX11_item_185 (by rw [c145]; decide) (by rw [c145]; decide) (off := 128) (by rw [c145]; decide) rfl ?_
                    have hvk : v = 4 := (nI_eq (by omega) (by omega)).mp (c145 : nI v = nI 4)
                    have hnbk : nbN v = 1 := by rw [hvk]; rfl
                    refine j_aload_n 0 dX11_item_313 rfl ?_
                    refine j_iconst 1 dX11_item_314 ic_1 ?_
                    refine j_aload_n 0 dX11_item_315 rfl ?_
                    refine j_getr (q := 21) dX11_item_316 fX11_87 (shM (Fm.M hs1 hM) sgM_0) rfl (rfM (Fm.M hs1 hM) rfM_0_29) ?_
                    refine j_iconst 0 dX11_item_319 ic_0 ?_
                    refine j_ialdN 0 dX11_item_320 (shM (Fm.M hs1 hM) sgM_21) (by omega) (by omega) ?_
                    refine j_topi (vv 0) (htl _ (by omega)) ?_
                    refine j_callV (kc := 0) (ks := 0) (a := 0) (b := 0) (d' := d) (As := [.int 1, .int (vv 0)]) dX11_item_321 kX11_177 rfl (shM (Fm.M hs1 hM) sgM_0) (by omega) rfl rfl rfl (Nat.le_of_ble_eq_true rfl) (Nat.le_of_ble_eq_true rfl) (T_tells1 (Fm.M hs1 hM) (vv 0)) (kk_pv ?_)
                    have sm146 : Fm PIt M (jk_wI M1 0 5 (vv 0)) := Fm.w hs1 (by unfold PIt PH PQr; omega)
                    refine j_goto (tgt := 409) dX11_item_324 rfl ?_
                    refine j_iconst 1 dX11_item_409 ic_1 ?_
                    refine j_zret dX11_item_410 rfl rfl ?_
                    have hmv : mv (jk_wI M1 0 5 (vv 0)).2.1 = apS S v (vv 0) (vv 1) (vv 2) := by
                      rw [hvk]
                      exact mv_sc (a := 2) hm1 (by decide) (by decide) (by decide) (by decide)
                    have h31e : (jk_wI M1 0 5 (vv 0)).2.1 0 31 = nI q := (rd_p (by omega)).trans h31b
                    exact hQ _ _ (Or.inl ⟨rfl, _, q, itS_3 hwd hr3 hn3, sm146, hmv, h31e⟩)
                  by_cases c147 : (nI v) = 5
                  · refine j_tableIn (tgt := 327) dX11_item_185 (by rw [c147]; decide) (by rw [c147]; decide) (off := 142) (by rw [c147]; decide) rfl ?_
                    have hvk : v = 5 := (nI_eq (by omega) (by omega)).mp (c147 : nI v = nI 5)
                    have hnbk : nbN v = 2 := by rw [hvk]; rfl
                    obtain ⟨hr1, hr5, hr6⟩ := hr3
                    have hlt := hr5 hvk
                    have hr3 : roomS S v := ⟨hr1, hr5, hr6⟩
                    refine j_aload_n 0 dX11_item_327 rfl ?_
                    refine j_aload_n 0 dX11_item_328 rfl ?_
                    refine j_getr (q := 21) dX11_item_329 fX11_87 (shM (Fm.M hs1 hM) sgM_0) rfl (rfM (Fm.M hs1 hM) rfM_0_29) ?_
                    refine j_iconst 0 dX11_item_332 ic_0 ?_
                    refine j_ialdN 0 dX11_item_333 (shM (Fm.M hs1 hM) sgM_21) (by omega) (by omega) ?_
                    refine j_topi (vv 0) (htl _ (by omega)) ?_
                    refine j_aload_n 0 dX11_item_334 rfl ?_
                    refine j_getr (q := 21) dX11_item_335 fX11_87 (shM (Fm.M hs1 hM) sgM_0) rfl (rfM (Fm.M hs1 hM) rfM_0_29) ?_
                    refine j_iconst 1 dX11_item_338 ic_1 ?_
                    refine j_ialdN 1 dX11_item_339 (shM (Fm.M hs1 hM) sgM_21) (by omega) (by omega) ?_
                    refine j_topi (vv 1) (htl _ (by omega)) ?_
                    refine j_callV (kc := 0) (ks := 0) (a := 0) (b := 0) (d' := d) (As := [.int (vv 0), .int (vv 1)]) dX11_item_340 kX11_161 rfl (shM (Fm.M hs1 hM) sgM_0) (by omega) rfl rfl rfl (Nat.le_of_ble_eq_true rfl) (Nat.le_of_ble_eq_true rfl) (T_X11_addsNeighbour (Fm.M hs1 hM) hm1 ok (vv 0) (vv 1) hlt) (kk_e (fun M148 hM149 => ?_))
                    obtain ⟨h0A, hvA⟩ := hM149
                    have smA : Fm PIt M M148 := Fm.tr hs1 (Fm.mo h0A PA_I)
                    refine j_pop dX11_item_343 rfl ?_
                    refine j_goto (tgt := 409) dX11_item_344 rfl ?_
                    refine j_iconst 1 dX11_item_409 ic_1 ?_
                    refine j_zret dX11_item_410 rfl rfl ?_
                    have hmv : mv M148.2.1 = apS S v (vv 0) (vv 1) (vv 2) := by
                      rw [hvk]
                      exact hvA
                    have h31e : M148.2.1 0 31 = nI q := (Fm.rd h0A (by unfold PA; omega)).trans h31b
                    exact hQ _ _ (Or.inl ⟨rfl, _, q, itS_3 hwd hr3 hn3, smA, hmv, h31e⟩)
                  by_cases c150 : (nI v) = 6
                  · refine j_tableIn (tgt := 347) dX11_item_185 (by rw [c150]; decide) (by rw [c150]; decide) (off := 162) (by rw [c150]; decide) rfl ?_
                    have hvk : v = 6 := (nI_eq (by omega) (by omega)).mp (c150 : nI v = nI 6)
                    have hnbk : nbN v = 3 := by rw [hvk]; rfl
                    obtain ⟨hr1, hr5, hr6⟩ := hr3
                    have hlt := hr6 hvk
                    have hr3 : roomS S v := ⟨hr1, hr5, hr6⟩
                    refine j_aload_n 0 dX11_item_347 rfl ?_
                    refine j_aload_n 0 dX11_item_348 rfl ?_
                    refine j_getr (q := 21) dX11_item_349 fX11_87 (shM (Fm.M hs1 hM) sgM_0) rfl (rfM (Fm.M hs1 hM) rfM_0_29) ?_
                    refine j_iconst 0 dX11_item_352 ic_0 ?_
                    refine j_ialdN 0 dX11_item_353 (shM (Fm.M hs1 hM) sgM_21) (by omega) (by omega) ?_
                    refine j_topi (vv 0) (htl _ (by omega)) ?_
                    refine j_aload_n 0 dX11_item_354 rfl ?_
                    refine j_getr (q := 21) dX11_item_355 fX11_87 (shM (Fm.M hs1 hM) sgM_0) rfl (rfM (Fm.M hs1 hM) rfM_0_29) ?_
                    refine j_iconst 1 dX11_item_358 ic_1 ?_
                    refine j_ialdN 1 dX11_item_359 (shM (Fm.M hs1 hM) sgM_21) (by omega) (by omega) ?_
                    refine j_topi (vv 1) (htl _ (by omega)) ?_
                    refine j_aload_n 0 dX11_item_360 rfl ?_
                    refine j_getr (q := 21) dX11_item_361 fX11_87 (shM (Fm.M hs1 hM) sgM_0) rfl (rfM (Fm.M hs1 hM) rfM_0_29) ?_
                    refine j_iconst 2 dX11_item_364 ic_2 ?_
                    refine j_ialdN 2 dX11_item_365 (shM (Fm.M hs1 hM) sgM_21) (by omega) (by omega) ?_
                    refine j_topi (vv 2) (htl _ (by omega)) ?_
                    refine j_callV (kc := 0) (ks := 0) (a := 0) (b := 0) (d' := d) (As := [.int (vv 0), .int (vv 1), .int (vv 2)]) dX11_item_366 kX11_164 rfl (shM (Fm.M hs1 hM) sgM_0) (by omega) rfl rfl rfl (Nat.le_of_ble_eq_true rfl) (Nat.le_of_ble_eq_true rfl) (T_X11_addsDevice (Fm.M hs1 hM) hm1 ok (vv 0) (vv 1) (vv 2) hlt) (kk_e (fun M151 hM152 => ?_))
                    obtain ⟨h0A, hvA⟩ := hM152
                    have smA : Fm PIt M M151 := Fm.tr hs1 (Fm.mo h0A PA_I)
                    refine j_pop dX11_item_369 rfl ?_
                    refine j_goto (tgt := 409) dX11_item_370 rfl ?_
                    refine j_iconst 1 dX11_item_409 ic_1 ?_
                    refine j_zret dX11_item_410 rfl rfl ?_
                    have hmv : mv M151.2.1 = apS S v (vv 0) (vv 1) (vv 2) := by
                      rw [hvk]
                      exact hvA
                    have h31e : M151.2.1 0 31 = nI q := (Fm.rd h0A (by unfold PA; omega)).trans h31b
                    exact hQ _ _ (Or.inl ⟨rfl, _, q, itS_3 hwd hr3 hn3, smA, hmv, h31e⟩)
                  by_cases c153 : (nI v) = 7
                  · refine j_tableIn (tgt := 387) dX11_item_185 (by rw [c153]; decide) (by rw [c153]; decide) (off := 202) (by rw [c153]; decide) rfl ?_
                    have hvk : v = 7 := (nI_eq (by omega) (by omega)).mp (c153 : nI v = nI 7)
                    have hnbk : nbN v = 1 := by rw [hvk]; rfl
                    have hm0 : mayS S 10 (vv 0) := by have q := hmay 0 (by omega) (by rw [hvk]; decide); rw [hvk] at q; exact q
                    obtain ⟨j0, hj0, ej0⟩ := may10 ok hm0
                    refine j_aload_n 0 dX11_item_387 rfl ?_
                    refine j_getr (q := 5) dX11_item_388 fX11_38 (shM (Fm.M hs1 hM) sgM_0) rfl (rfM (Fm.M hs1 hM) rfM_0_13) ?_
                    refine j_aload_n 0 dX11_item_391 rfl ?_
                    refine j_getr (q := 21) dX11_item_392 fX11_87 (shM (Fm.M hs1 hM) sgM_0) rfl (rfM (Fm.M hs1 hM) rfM_0_29) ?_
                    refine j_iconst 0 dX11_item_395 ic_0 ?_
                    refine j_ialdN 0 dX11_item_396 (shM (Fm.M hs1 hM) sgM_21) (by omega) (by omega) ?_
                    refine j_topi (nI j0) ((htl 0 (by omega)).trans ej0) ?_
                    refine j_iload_n 1 dX11_item_397 rfl ?_
                    refine j_bipush 8 dX11_item_398 bp_8 ?_
                    refine j_icmp_neN (tgt := 407) v 8 dX11_item_400 rfl (by omega) (by omega) (fun c154 => ?_) (fun c154 => ?_)
                    · refine j_iconst 0 dX11_item_407 ic_0 ?_
                      refine j_iastN j0 dX11_item_408 (shM (Fm.M hs1 hM) sgM_5) (by omega) (by omega) ?_
                      have sm155 : Fm PIt M (jk_wI M1 5 j0 0) := Fm.w hs1 (by unfold PIt PH PQr; omega)
                      refine j_iconst 1 dX11_item_409 ic_1 ?_
                      refine j_zret dX11_item_410 rfl rfl ?_
                      have hmv : mv (jk_wI M1 5 j0 0).2.1 = apS S v (vv 0) (vv 1) (vv 2) := by
                        rw [hvk]
                        show mv (jk_wI M1 5 j0 0).2.1 = upS S 13 (vv 0).toNatClampNeg 0
                        rw [ej0, nI_clamp (by omega)]; exact mv_ar (a := 13) hm1 (by omega)
                      have h31e : (jk_wI M1 5 j0 0).2.1 0 31 = nI q := (rd_p (by omega)).trans h31b
                      exact hQ _ _ (Or.inl ⟨rfl, _, q, itS_3 hwd hr3 hn3, sm155, hmv, h31e⟩)
                    · exact absurd (hvk.symm.trans c154) (by decide)
                  by_cases c156 : (nI v) = 8
                  · refine j_tableIn (tgt := 387) dX11_item_185 (by rw [c156]; decide) (by rw [c156]; decide) (off := 202) (by rw [c156]; decide) rfl ?_
                    have hvk : v = 8 := (nI_eq (by omega) (by omega)).mp (c156 : nI v = nI 8)
                    have hnbk : nbN v = 1 := by rw [hvk]; rfl
                    have hm0 : mayS S 10 (vv 0) := by have q := hmay 0 (by omega) (by rw [hvk]; decide); rw [hvk] at q; exact q
                    obtain ⟨j0, hj0, ej0⟩ := may10 ok hm0
                    refine j_aload_n 0 dX11_item_387 rfl ?_
                    refine j_getr (q := 5) dX11_item_388 fX11_38 (shM (Fm.M hs1 hM) sgM_0) rfl (rfM (Fm.M hs1 hM) rfM_0_13) ?_
                    refine j_aload_n 0 dX11_item_391 rfl ?_
                    refine j_getr (q := 21) dX11_item_392 fX11_87 (shM (Fm.M hs1 hM) sgM_0) rfl (rfM (Fm.M hs1 hM) rfM_0_29) ?_
                    refine j_iconst 0 dX11_item_395 ic_0 ?_
                    refine j_ialdN 0 dX11_item_396 (shM (Fm.M hs1 hM) sgM_21) (by omega) (by omega) ?_
                    refine j_topi (nI j0) ((htl 0 (by omega)).trans ej0) ?_
                    refine j_iload_n 1 dX11_item_397 rfl ?_
                    refine j_bipush 8 dX11_item_398 bp_8 ?_
                    refine j_icmp_neN (tgt := 407) v 8 dX11_item_400 rfl (by omega) (by omega) (fun c157 => ?_) (fun c157 => ?_)
                    · exact absurd hvk c157
                    · refine j_iconst 1 dX11_item_403 ic_1 ?_
                      refine j_goto (tgt := 408) dX11_item_404 rfl ?_
                      refine j_iastN j0 dX11_item_408 (shM (Fm.M hs1 hM) sgM_5) (by omega) (by omega) ?_
                      have sm158 : Fm PIt M (jk_wI M1 5 j0 1) := Fm.w hs1 (by unfold PIt PH PQr; omega)
                      refine j_iconst 1 dX11_item_409 ic_1 ?_
                      refine j_zret dX11_item_410 rfl rfl ?_
                      have hmv : mv (jk_wI M1 5 j0 1).2.1 = apS S v (vv 0) (vv 1) (vv 2) := by
                        rw [hvk]
                        show mv (jk_wI M1 5 j0 1).2.1 = upS S 13 (vv 0).toNatClampNeg 1
                        rw [ej0, nI_clamp (by omega)]; exact mv_ar (a := 13) hm1 (by omega)
                      have h31e : (jk_wI M1 5 j0 1).2.1 0 31 = nI q := (rd_p (by omega)).trans h31b
                      exact hQ _ _ (Or.inl ⟨rfl, _, q, itS_3 hwd hr3 hn3, sm158, hmv, h31e⟩)
                  by_cases c159 : (nI v) = 9
                  · refine j_tableIn (tgt := 373) dX11_item_185 (by rw [c159]; decide) (by rw [c159]; decide) (off := 188) (by rw [c159]; decide) rfl ?_
                    have hvk : v = 9 := (nI_eq (by omega) (by omega)).mp (c159 : nI v = nI 9)
                    have hnbk : nbN v = 1 := by rw [hvk]; rfl
                    refine j_aload_n 0 dX11_item_373 rfl ?_
                    refine j_iconst 2 dX11_item_374 ic_2 ?_
                    refine j_aload_n 0 dX11_item_375 rfl ?_
                    refine j_getr (q := 21) dX11_item_376 fX11_87 (shM (Fm.M hs1 hM) sgM_0) rfl (rfM (Fm.M hs1 hM) rfM_0_29) ?_
                    refine j_iconst 0 dX11_item_379 ic_0 ?_
                    refine j_ialdN 0 dX11_item_380 (shM (Fm.M hs1 hM) sgM_21) (by omega) (by omega) ?_
                    refine j_topi (vv 0) (htl _ (by omega)) ?_
                    refine j_callV (kc := 0) (ks := 0) (a := 0) (b := 0) (d' := d) (As := [.int 2, .int (vv 0)]) dX11_item_381 kX11_177 rfl (shM (Fm.M hs1 hM) sgM_0) (by omega) rfl rfl rfl (Nat.le_of_ble_eq_true rfl) (Nat.le_of_ble_eq_true rfl) (T_tells2 (Fm.M hs1 hM) (vv 0)) (kk_pv ?_)
                    have sm160 : Fm PIt M (jk_wI M1 0 6 (vv 0)) := Fm.w hs1 (by unfold PIt PH PQr; omega)
                    refine j_goto (tgt := 409) dX11_item_384 rfl ?_
                    refine j_iconst 1 dX11_item_409 ic_1 ?_
                    refine j_zret dX11_item_410 rfl rfl ?_
                    have hmv : mv (jk_wI M1 0 6 (vv 0)).2.1 = apS S v (vv 0) (vv 1) (vv 2) := by
                      rw [hvk]
                      exact mv_sc (a := 3) hm1 (by decide) (by decide) (by decide) (by decide)
                    have h31e : (jk_wI M1 0 6 (vv 0)).2.1 0 31 = nI q := (rd_p (by omega)).trans h31b
                    exact hQ _ _ (Or.inl ⟨rfl, _, q, itS_3 hwd hr3 hn3, sm160, hmv, h31e⟩)
                  have hv10b : v = 0 ∨ v = 1 ∨ v = 2 ∨ v = 3 ∨ v = 4 ∨ v = 5 ∨ v = 6 ∨ v = 7 ∨ v = 8 ∨ v = 9 := by omega
                  exfalso
                  rcases hv10b with rfl | rfl | rfl | rfl | rfl | rfl | rfl | rfl | rfl | rfl
                  · exact c136 rfl
                  · exact c138 rfl
                  · exact c141 rfl
                  · exact c143 rfl
                  · exact c145 rfl
                  · exact c147 rfl
                  · exact c150 rfl
                  · exact c153 rfl
                  · exact c156 rfl
                  · exact c159 rfl
                · refine j_iload_n 2 dX11_item_85 rfl ?_
                  refine j_if_leN (tgt := 139) i dX11_item_86 (by omega) rfl (fun c161 => ?_) (fun c161 => ?_)
                  · refine j_aload_n 0 dX11_item_139 rfl ?_
                    refine j_getv (nI (q + 1)) dX11_item_140 fX11_193 (shM (Fm.M hs1 hM) sgM_0) rfl (hpl.resolve_right (fun z => by omega)).2.1 ?_
                    refine j_istore_n (L' := [(3, .int (nI (q + 1))), (0, .ref 0), (1, .int (nI v)), (2, .int (nI i))]) dX11_item_143 (by decide) rfl ?_
                    have hmB : mv M1.2.1 = S := hm1
                    have hp1 : M1.2.1 0 31 = nI (q + 1) := (hpl.resolve_right (fun z => by omega)).2.1
                    have hsp : q < n ∧ t q = 32 := by first | exact ⟨by omega, by assumption⟩ | exact (hpl.resolve_right (fun z => by omega)).2.2
                    refine j_aload_n 1 dX11_item_144 rfl ?_
                    refine j_callV (kc := 0) (ks := 0) (a := 0) (b := 0) (d' := (d + 1)) (As := []) dX11_item_145 kX11_219 rfl (shM (Fm.M hs1 hM) sgM_0) (by omega) rfl rfl rfl (Nat.le_of_ble_eq_true rfl) (Nat.le_of_ble_eq_true rfl) (T_X11_reads (Fm.M hs1 hM) (RX.it rx hs1) hp1 (by omega)) (kk_o (fun M162 hM163 => ?_) (fun M164 hM165 => ?_))
                    · obtain ⟨hdg, h0R, h33, h31⟩ := hM163
                      have sm166 : Fm PIt M M162 := Fm.tr hs1 (Fm.mo h0R PQr_I)
                      have hmR : mv M162.2.1 = S := Fm.mv h0R hmB (fun q k h => by unfold PH at h; unfold PQr; omega)
                      refine j_if_ne (tgt := 153) dX11_item_148 rfl (fun c167 => ?_) (fun c167 => ?_)
                      · refine j_aload_n 1 dX11_item_153 rfl ?_
                        refine j_iload_n 2 dX11_item_154 rfl ?_
                        refine j_iload_n 3 dX11_item_155 rfl ?_
                        refine j_callV (kc := 0) (ks := 0) (a := 0) (b := 0) (d' := (d + 2)) (As := [.int (nI v), .int (nI i)]) dX11_item_156 kX11_222 rfl (shM (Fm.M sm166 hM) sgM_0) (by omega) rfl rfl rfl (Nat.le_of_ble_eq_true rfl) (Nat.le_of_ble_eq_true rfl) (T_X11_isSo (Fm.M sm166 hM) hmR ok (nuV_pos hdg) h33 (w := v) (i := i) hv10 (by omega)) (kk_p ?_)
                        refine j_if_neB (p := (mayS S (soN v i) (nuV n t (q + 1)).1)) (tgt := 168) dX11_item_159 rfl (fun c168 => ?_) (fun c168 => ?_)
                        · refine j_aload_n 1 dX11_item_168 rfl ?_
                          refine j_getr (q := 21) dX11_item_169 fX11_87 (shM (Fm.M sm166 hM) sgM_0) rfl (rfM (Fm.M sm166 hM) rfM_0_29) ?_
                          refine j_iload_n 3 dX11_item_172 rfl ?_
                          refine j_aload_n 1 dX11_item_173 rfl ?_
                          refine j_getv (nuV n t (q + 1)).1 dX11_item_174 fX11_202 (shM (Fm.M sm166 hM) sgM_0) rfl h33 ?_
                          refine j_iastN i dX11_item_177 (shM (Fm.M sm166 hM) sgM_21) (by omega) (by omega) ?_
                          have sm169 : Fm PIt M (jk_wI M162 21 i (nuV n t (q + 1)).1) := Fm.w sm166 (by unfold PIt PH PQr; omega)
                          refine j_iinc 3 (nI (i + 1)) (L' := [(2, .int (nI (i + 1))), (3, .int (nI (q + 1))), (0, .ref 0), (1, .int (nI v))]) dX11_item_178 rfl (inc1 i) (by decide) rfl ?_
                          refine j_goto (tgt := 75) dX11_item_181 rfl ?_
                          exact j_sub (jk_pick [2, 3, 0] rfl) (ih132 (i + 1) ((nuV n t (q + 1)).2) (va_up vv i (nuV n t (q + 1)).1) (jk_wI M162 21 i (nuV n t (q + 1)).1) (by omega) (by omega) (nuL_y hnu (so_n hv10 (by omega)) (nuS_3 hsp hdg (by assumption))) sm169 (Fm.mv (P := fun q k => q = 21) (Fm.w Fm.rf rfl) hmR (fun q k h z => by unfold PH at h; omega)) (fun k hk => by
          by_cases e : k = i
          · rw [e, rd_s, va_up_self]
          · rw [rd_k e, va_up_ne _ _ e, Fm.rd h0R (by unfold PQr; omega)]; first | exact htl k (by omega) | exact (rd_o (by decide)).trans (htl k (by omega))) (Or.inr ⟨by omega, (rd_o (by decide)).trans h31⟩) (nuS_in (nuS_3 hsp hdg (by assumption))).2.2.2)
                        · refine j_aload_n 1 dX11_item_162 rfl ?_
                          refine j_iload_n 0 dX11_item_163 rfl ?_
                          refine j_callV (kc := 0) (ks := 0) (a := 0) (b := 0) (d' := d) (As := [.int (nI (q + 1))]) dX11_item_164 kX11_209 rfl (shM (Fm.M sm166 hM) sgM_0) (by omega) rfl rfl rfl (Nat.le_of_ble_eq_true rfl) (Nat.le_of_ble_eq_true rfl) (T_X11_wrong (Fm.M sm166 hM) (nI (q + 1))) (kk_p ?_)
                          have sm170 : Fm PIt M (jk_wI M162 0 34 (nI (q + 1))) := Fm.w sm166 (by unfold PIt PH PQr; omega)
                          refine j_zret dX11_item_167 rfl rfl ?_
                          have hf : nuL S n t v (p + jk_sL.getD v 0) 3 = .inl (q + 1) := nu_stop (by omega) (nuL_n hnu (so_n hv10 (by omega)) (nuS_2 hsp hdg (by assumption)))
                          exact hQ _ _ (Or.inr ⟨rfl, q + 1, itS_2 hwd hr3 hf, sm170, rd_s⟩)
                      · exact absurd c167 (by decide)
                    · obtain ⟨hdg, h0R, h34⟩ := hM165
                      have sm171 : Fm PIt M M164 := Fm.tr hs1 (Fm.mo h0R PQr_I)
                      refine j_if_ne (tgt := 153) dX11_item_148 rfl (fun c172 => ?_) (fun c172 => ?_)
                      · exact absurd c172 (by decide)
                      · refine j_iconst 0 dX11_item_151 ic_0 ?_
                        refine j_zret dX11_item_152 rfl rfl ?_
                        have hf : nuL S n t v (p + jk_sL.getD v 0) 3 = .inl (q + 1) := nu_stop (by omega) (nuL_n hnu (so_n hv10 (by omega)) (nuS_1 hsp hdg))
                        exact hQ _ _ (Or.inr ⟨rfl, q + 1, itS_2 hwd hr3 hf, sm171, h34⟩)
                  · refine j_aload_n 0 dX11_item_89 rfl ?_
                    refine j_getv (nI q) dX11_item_90 fX11_193 (shM (Fm.M hs1 hM) sgM_0) rfl (hpl.resolve_left (fun z => by omega)).2 ?_
                    refine j_aload_n 0 dX11_item_93 rfl ?_
                    refine j_getv (nI n) dX11_item_94 fX11_196 (shM (Fm.M hs1 hM) sgM_0) rfl (RX.it rx hs1).2.2.2.1 ?_
                    refine j_icmp_geN (tgt := 120) q n dX11_item_97 rfl (by omega) (by omega) (fun c173 => ?_) (fun c173 => ?_)
                    · refine j_aload_n 0 dX11_item_120 rfl ?_
                      refine j_aload_n 0 dX11_item_121 rfl ?_
                      refine j_getv (nI q) dX11_item_122 fX11_193 (shM (Fm.M hs1 hM) sgM_0) rfl (hpl.resolve_left (fun z => by omega)).2 ?_
                      refine j_callV (kc := 0) (ks := 0) (a := 0) (b := 0) (d' := d) (As := [.int (nI q)]) dX11_item_125 kX11_209 rfl (shM (Fm.M hs1 hM) sgM_0) (by omega) rfl rfl rfl (Nat.le_of_ble_eq_true rfl) (Nat.le_of_ble_eq_true rfl) (T_X11_wrong (Fm.M hs1 hM) (nI q)) (kk_p ?_)
                      have sm174 : Fm PIt M (jk_wI M1 0 34 (nI q)) := Fm.w hs1 (by unfold PIt PH PQr; omega)
                      refine j_zret dX11_item_128 rfl rfl ?_
                      have hf : nuL S n t v (p + jk_sL.getD v 0) 3 = .inl q := nu_stop (by omega) (nuL_n hnu (so_n hv10 (by omega)) (nuS_0 (fun z => by have z1 := z.1; have z2 := z.2; first | omega | exact absurd z2 (by assumption))))
                      exact hQ _ _ (Or.inr ⟨rfl, q, itS_2 hwd hr3 hf, sm174, rd_s⟩)
                    · refine j_aload_n 0 dX11_item_100 rfl ?_
                      refine j_getr (q := 17) dX11_item_101 fX11_74 (shM (Fm.M hs1 hM) sgM_0) rfl (rfM (Fm.M hs1 hM) rfM_0_25) ?_
                      refine j_aload_n 0 dX11_item_104 rfl ?_
                      refine j_getv (nI b) dX11_item_105 fX11_199 (shM (Fm.M hs1 hM) sgM_0) rfl (RX.it rx hs1).2.2.1 ?_
                      refine j_aload_n 0 dX11_item_108 rfl ?_
                      refine j_getv (nI q) dX11_item_109 fX11_193 (shM (Fm.M hs1 hM) sgM_0) rfl (hpl.resolve_left (fun z => by omega)).2 ?_
                      refine j_iaddN b q dX11_item_112 ?_
                      refine j_laldN (b + q) dX11_item_113 (shM (Fm.M hs1 hM) sgM_17) (by omega) (by omega) ?_
                      refine j_l2i dX11_item_114 ?_
                      refine j_topi (t q) ((RX.it rx hs1).2.2.2.2.1 _ (by omega)) ?_
                      refine j_bipush 32 dX11_item_115 bp_32 ?_
                      refine j_icmp_eq (tgt := 129) dX11_item_117 rfl (fun c175 => ?_) (fun c175 => ?_)
                      · refine j_aload_n 0 dX11_item_129 rfl ?_
                        refine j_dup dX11_item_130 rfl ?_
                        refine j_getv (nI q) dX11_item_131 fX11_193 (shM (Fm.M hs1 hM) sgM_0) rfl (hpl.resolve_left (fun z => by omega)).2 ?_
                        refine j_iconst 1 dX11_item_134 ic_1 ?_
                        refine j_iaddN q 1 dX11_item_135 ?_
                        refine j_put dX11_item_136 fX11_193 (shM (Fm.M hs1 hM) sgM_0) rfl ?_
                        have sm176 : Fm PIt M (jk_wI M1 0 31 (nI (q + 1))) := Fm.w hs1 (by unfold PIt PH PQr; omega)
                        refine j_aload_n 0 dX11_item_139 rfl ?_
                        refine j_getv (nI (q + 1)) dX11_item_140 fX11_193 (shM (Fm.M sm176 hM) sgM_0) rfl rd_s ?_
                        refine j_istore_n (L' := [(3, .int (nI (q + 1))), (0, .ref 0), (1, .int (nI v)), (2, .int (nI i))]) dX11_item_143 (by decide) rfl ?_
                        have hmB : mv (jk_wI M1 0 31 (nI (q + 1))).2.1 = S := (Fm.mv (P := PQr) (Fm.w Fm.rf (by unfold PQr; omega)) hm1 (fun q k h => by unfold PH at h; unfold PQr; omega))
                        have hp1 : (jk_wI M1 0 31 (nI (q + 1))).2.1 0 31 = nI (q + 1) := rd_s
                        have hsp : q < n ∧ t q = 32 := by first | exact ⟨by omega, by assumption⟩ | exact (hpl.resolve_right (fun z => by omega)).2.2
                        refine j_aload_n 1 dX11_item_144 rfl ?_
                        refine j_callV (kc := 0) (ks := 0) (a := 0) (b := 0) (d' := (d + 1)) (As := []) dX11_item_145 kX11_219 rfl (shM (Fm.M sm176 hM) sgM_0) (by omega) rfl rfl rfl (Nat.le_of_ble_eq_true rfl) (Nat.le_of_ble_eq_true rfl) (T_X11_reads (Fm.M sm176 hM) (RX.it rx sm176) hp1 (by omega)) (kk_o (fun M177 hM178 => ?_) (fun M179 hM180 => ?_))
                        · obtain ⟨hdg, h0R, h33, h31⟩ := hM178
                          have sm181 : Fm PIt M M177 := Fm.tr sm176 (Fm.mo h0R PQr_I)
                          have hmR : mv M177.2.1 = S := Fm.mv h0R hmB (fun q k h => by unfold PH at h; unfold PQr; omega)
                          refine j_if_ne (tgt := 153) dX11_item_148 rfl (fun c182 => ?_) (fun c182 => ?_)
                          · refine j_aload_n 1 dX11_item_153 rfl ?_
                            refine j_iload_n 2 dX11_item_154 rfl ?_
                            refine j_iload_n 3 dX11_item_155 rfl ?_
                            refine j_callV (kc := 0) (ks := 0) (a := 0) (b := 0) (d' := (d + 2)) (As := [.int (nI v), .int (nI i)]) dX11_item_156 kX11_222 rfl (shM (Fm.M sm181 hM) sgM_0) (by omega) rfl rfl rfl (Nat.le_of_ble_eq_true rfl) (Nat.le_of_ble_eq_true rfl) (T_X11_isSo (Fm.M sm181 hM) hmR ok (nuV_pos hdg) h33 (w := v) (i := i) hv10 (by omega)) (kk_p ?_)
                            refine j_if_neB (p := (mayS S (soN v i) (nuV n t (q + 1)).1)) (tgt := 168) dX11_item_159 rfl (fun c183 => ?_) (fun c183 => ?_)
                            · refine j_aload_n 1 dX11_item_168 rfl ?_
                              refine j_getr (q := 21) dX11_item_169 fX11_87 (shM (Fm.M sm181 hM) sgM_0) rfl (rfM (Fm.M sm181 hM) rfM_0_29) ?_
                              refine j_iload_n 3 dX11_item_172 rfl ?_
                              refine j_aload_n 1 dX11_item_173 rfl ?_
                              refine j_getv (nuV n t (q + 1)).1 dX11_item_174 fX11_202 (shM (Fm.M sm181 hM) sgM_0) rfl h33 ?_
                              refine j_iastN i dX11_item_177 (shM (Fm.M sm181 hM) sgM_21) (by omega) (by omega) ?_
                              have sm184 : Fm PIt M (jk_wI M177 21 i (nuV n t (q + 1)).1) := Fm.w sm181 (by unfold PIt PH PQr; omega)
                              refine j_iinc 3 (nI (i + 1)) (L' := [(2, .int (nI (i + 1))), (3, .int (nI (q + 1))), (0, .ref 0), (1, .int (nI v))]) dX11_item_178 rfl (inc1 i) (by decide) rfl ?_
                              refine j_goto (tgt := 75) dX11_item_181 rfl ?_
                              exact j_sub (jk_pick [2, 3, 0] rfl) (ih132 (i + 1) ((nuV n t (q + 1)).2) (va_up vv i (nuV n t (q + 1)).1) (jk_wI M177 21 i (nuV n t (q + 1)).1) (by omega) (by omega) (nuL_y hnu (so_n hv10 (by omega)) (nuS_3 hsp hdg (by assumption))) sm184 (Fm.mv (P := fun q k => q = 21) (Fm.w Fm.rf rfl) hmR (fun q k h z => by unfold PH at h; omega)) (fun k hk => by
          by_cases e : k = i
          · rw [e, rd_s, va_up_self]
          · rw [rd_k e, va_up_ne _ _ e, Fm.rd h0R (by unfold PQr; omega)]; first | exact htl k (by omega) | exact (rd_o (by decide)).trans (htl k (by omega))) (Or.inr ⟨by omega, (rd_o (by decide)).trans h31⟩) (nuS_in (nuS_3 hsp hdg (by assumption))).2.2.2)
                            · refine j_aload_n 1 dX11_item_162 rfl ?_
                              refine j_iload_n 0 dX11_item_163 rfl ?_
                              refine j_callV (kc := 0) (ks := 0) (a := 0) (b := 0) (d' := d) (As := [.int (nI (q + 1))]) dX11_item_164 kX11_209 rfl (shM (Fm.M sm181 hM) sgM_0) (by omega) rfl rfl rfl (Nat.le_of_ble_eq_true rfl) (Nat.le_of_ble_eq_true rfl) (T_X11_wrong (Fm.M sm181 hM) (nI (q + 1))) (kk_p ?_)
                              have sm185 : Fm PIt M (jk_wI M177 0 34 (nI (q + 1))) := Fm.w sm181 (by unfold PIt PH PQr; omega)
                              refine j_zret dX11_item_167 rfl rfl ?_
                              have hf : nuL S n t v (p + jk_sL.getD v 0) 3 = .inl (q + 1) := nu_stop (by omega) (nuL_n hnu (so_n hv10 (by omega)) (nuS_2 hsp hdg (by assumption)))
                              exact hQ _ _ (Or.inr ⟨rfl, q + 1, itS_2 hwd hr3 hf, sm185, rd_s⟩)
                          · exact absurd c182 (by decide)
                        · obtain ⟨hdg, h0R, h34⟩ := hM180
                          have sm186 : Fm PIt M M179 := Fm.tr sm176 (Fm.mo h0R PQr_I)
                          refine j_if_ne (tgt := 153) dX11_item_148 rfl (fun c187 => ?_) (fun c187 => ?_)
                          · exact absurd c187 (by decide)
                          · refine j_iconst 0 dX11_item_151 ic_0 ?_
                            refine j_zret dX11_item_152 rfl rfl ?_
                            have hf : nuL S n t v (p + jk_sL.getD v 0) 3 = .inl (q + 1) := nu_stop (by omega) (nuL_n hnu (so_n hv10 (by omega)) (nuS_1 hsp hdg))
                            exact hQ _ _ (Or.inr ⟨rfl, q + 1, itS_2 hwd hr3 hf, sm186, h34⟩)
                      · refine j_aload_n 0 dX11_item_120 rfl ?_
                        refine j_aload_n 0 dX11_item_121 rfl ?_
                        refine j_getv (nI q) dX11_item_122 fX11_193 (shM (Fm.M hs1 hM) sgM_0) rfl (hpl.resolve_left (fun z => by omega)).2 ?_
                        refine j_callV (kc := 0) (ks := 0) (a := 0) (b := 0) (d' := d) (As := [.int (nI q)]) dX11_item_125 kX11_209 rfl (shM (Fm.M hs1 hM) sgM_0) (by omega) rfl rfl rfl (Nat.le_of_ble_eq_true rfl) (Nat.le_of_ble_eq_true rfl) (T_X11_wrong (Fm.M hs1 hM) (nI q)) (kk_p ?_)
                        have sm188 : Fm PIt M (jk_wI M1 0 34 (nI q)) := Fm.w hs1 (by unfold PIt PH PQr; omega)
                        refine j_zret dX11_item_128 rfl rfl ?_
                        have hf : nuL S n t v (p + jk_sL.getD v 0) 3 = .inl q := nu_stop (by omega) (nuL_n hnu (so_n hv10 (by omega)) (nuS_0 (fun z => by have z1 := z.1; have z2 := z.2; first | omega | exact absurd z2 (by assumption))))
                        exact hQ _ _ (Or.inr ⟨rfl, q, itS_2 hwd hr3 hf, sm188, rd_s⟩)
            exact j_sub (jk_pick [2, 1, 0] rfl) (lp133 _ 0 (p + jk_sL.getD v 0) (fun _ => 0) (jk_wI M 0 31 (nI (p + jk_sL.getD v 0 + 1))) (Nat.lt_succ_self _) (Nat.zero_le _) rfl sm129 hmW (fun k hk => absurd hk (Nat.not_lt_zero k)) (Or.inl ⟨rfl, rd_s, hspc⟩) (by omega))
          · exact absurd c130 (nI_n1 (by omega))
        · refine j_aload_n 0 dX11_item_43 rfl ?_
          refine j_getv (nI (nD S)) dX11_item_44 fX11_147 (shM hM sgM_0) rfl ((mr_D hS).trans (Sok.D ok).1) ?_
          refine j_bipush 6 dX11_item_47 bp_6 ?_
          refine j_icmp_neN (tgt := 61) (nD S) 6 dX11_item_49 rfl (by omega) (by omega) (fun c189 => ?_) (fun c189 => ?_)
          · have hroom : ∀ w, wdN n t p 10 = some w → roomS S w := fun w hw => ⟨(fun e => by first | omega | exact absurd (show mt n t p 1 = jk_sL.getD 1 0 by have q := (wd_lt 10 hw).2; rw [e] at q; exact q) (by assumption)), (fun e => by first | omega | exact absurd (show mt n t p 5 = jk_sL.getD 5 0 by have q := (wd_lt 10 hw).2; rw [e] at q; exact q) (by assumption)), (fun e => by first | omega | exact absurd (show mt n t p 6 = jk_sL.getD 6 0 by have q := (wd_lt 10 hw).2; rw [e] at q; exact q) (by assumption))⟩
            refine j_aload_n 0 dX11_item_61 rfl ?_
            refine j_callV (kc := 0) (ks := 0) (a := 0) (b := 0) (d' := d) (As := []) dX11_item_62 kX11_215 rfl (shM hM sgM_0) (by omega) rfl rfl rfl (Nat.le_of_ble_eq_true rfl) (Nat.le_of_ble_eq_true rfl) (T_wordS hM rx hp (by omega) v hv) (kk_p ?_)
            have sm190 : Fm PIt M (jk_wI M 0 31 (nI (p + jk_sL.getD v 0 + 1))) := Fm.w Fm.rf (by unfold PIt PH PQr; omega)
            refine j_istore_n (L' := [(1, .int (nI v)), (0, .ref 0)]) dX11_item_65 (by decide) rfl ?_
            have hr3 := hroom v hwd
            have hl9 := sL9 v hv10
            obtain ⟨-, hnb3, hnb1, -⟩ := nb_T v hv10
            have hmW : mv (jk_wI M 0 31 (nI (p + jk_sL.getD v 0 + 1))).2.1 = S := Fm.mv (P := PQr) (Fm.w Fm.rf (by unfold PQr; omega)) hS (fun q k h => by unfold PH at h; unfold PQr; omega)
            refine j_iload_n 0 dX11_item_66 rfl ?_
            refine j_iconst (-1) dX11_item_67 ic_n1 ?_
            refine j_icmp_ne (tgt := 73) dX11_item_68 rfl (fun c191 => ?_) (fun c191 => ?_)
            · refine j_iconst 0 dX11_item_73 ic_0 ?_
              refine j_istore_n (L' := [(2, .int 0), (1, .int (nI v)), (0, .ref 0)]) dX11_item_74 (by decide) rfl ?_
              have lp194 : ∀ (k192 : Nat) (i : Nat) (q : Nat) (vv : Nat → Int32) (M1 : jk_M), nbN v - i < k192 → (i ≤ nbN v) → (nuL S n t v (p + jk_sL.getD v 0) i = .inr (q, vv)) → (Fm PIt M M1) → (mv M1.2.1 = S) → (∀ k, k < i → M1.2.1 21 k = vv k) → ((i = 0 ∧ M1.2.1 0 31 = nI (q + 1) ∧ q < n ∧ t q = 32) ∨ (0 < i ∧ M1.2.1 0 31 = nI q)) → (q ≤ n) → J Fr_X11_item (d + 3) 0 0 75 [(0, .ref 0), (1, .int (nI v)), (2, .int (nI i))] [] M1 Q := by
                intro k192
                induction k192 with
                | zero => intro i q vv M1 hk; exact absurd hk (Nat.not_lt_zero _)
                | succ k192 ih193 =>
                  intro i q vv M1 hk192 hi hnu hs1 hm1 htl hpl hqn
                  refine j_iload_n 2 dX11_item_75 rfl ?_
                  refine j_aload_n 0 dX11_item_76 rfl ?_
                  refine j_getr (q := 20) dX11_item_77 fX11_84 (shM (Fm.M hs1 hM) sgM_0) rfl (rfM (Fm.M hs1 hM) rfM_0_28) ?_
                  refine j_iload_n 1 dX11_item_80 rfl ?_
                  refine j_ialdN v dX11_item_81 (shM (Fm.M hs1 hM) sgM_20) (by omega) (by omega) ?_
                  refine j_topi (nI (nbN v)) (((RX.it rx hs1).2.2.2.2.2.2 _ (by omega)).trans (nb_T v hv10).1) ?_
                  refine j_icmp_geN (tgt := 184) i (nbN v) dX11_item_82 rfl (by omega) (by omega) (fun c195 => ?_) (fun c195 => ?_)
                  · have ei : i = nbN v := by omega
                    have hn3 := nu_end hv10 (by rw [← ei]; exact hnu)
                    have hmay := (nuL_may 3 _ _ hn3).1
                    have h31b : M1.2.1 0 31 = nI q := (hpl.resolve_left (fun z => by omega)).2
                    refine j_iload_n 1 dX11_item_184 rfl ?_
                    by_cases c197 : (nI v) = 0
                    · refine j_tableIn (tgt := 240) dX11_item_185 (by rw [c197]; decide) (by rw [c197]; decide) (off := 55) (by rw [c197]; decide) rfl ?_
                      have hvk : v = 0 := (nI_eq (by omega) (by omega)).mp (c197 : nI v = nI 0)
                      have hnbk : nbN v = 1 := by rw [hvk]; rfl
                      refine j_aload_n 0 dX11_item_240 rfl ?_
                      refine j_aload_n 0 dX11_item_241 rfl ?_
                      refine j_getr (q := 21) dX11_item_242 fX11_87 (shM (Fm.M hs1 hM) sgM_0) rfl (rfM (Fm.M hs1 hM) rfM_0_29) ?_
                      refine j_iconst 0 dX11_item_245 ic_0 ?_
                      refine j_ialdN 0 dX11_item_246 (shM (Fm.M hs1 hM) sgM_21) (by omega) (by omega) ?_
                      refine j_topi (vv 0) (htl _ (by omega)) ?_
                      refine j_put dX11_item_247 fX11_7 (shM (Fm.M hs1 hM) sgM_0) rfl ?_
                      have sm198 : Fm PIt M (jk_wI M1 0 3 (vv 0)) := Fm.w hs1 (by unfold PIt PH PQr; omega)
                      refine j_goto (tgt := 409) dX11_item_250 rfl ?_
                      refine j_iconst 1 dX11_item_409 ic_1 ?_
                      refine j_zret dX11_item_410 rfl rfl ?_
                      have hmv : mv (jk_wI M1 0 3 (vv 0)).2.1 = apS S v (vv 0) (vv 1) (vv 2) := by
                        rw [hvk]
                        exact mv_sc (a := 0) hm1 (by decide) (by decide) (by decide) (by decide)
                      have h31e : (jk_wI M1 0 3 (vv 0)).2.1 0 31 = nI q := (rd_p (by omega)).trans h31b
                      exact hQ _ _ (Or.inl ⟨rfl, _, q, itS_3 hwd hr3 hn3, sm198, hmv, h31e⟩)
                    by_cases c199 : (nI v) = 1
                    · refine j_tableIn (tgt := 253) dX11_item_185 (by rw [c199]; decide) (by rw [c199]; decide) (off := 68) (by rw [c199]; decide) rfl ?_
                      have hvk : v = 1 := (nI_eq (by omega) (by omega)).mp (c199 : nI v = nI 1)
                      have hnbk : nbN v = 3 := by rw [hvk]; rfl
                      obtain ⟨hr1, hr5, hr6⟩ := hr3
                      have hlt := hr1 hvk
                      have hr3 : roomS S v := ⟨hr1, hr5, hr6⟩
                      refine j_aload_n 0 dX11_item_253 rfl ?_
                      refine j_aload_n 0 dX11_item_254 rfl ?_
                      refine j_getr (q := 21) dX11_item_255 fX11_87 (shM (Fm.M hs1 hM) sgM_0) rfl (rfM (Fm.M hs1 hM) rfM_0_29) ?_
                      refine j_iconst 0 dX11_item_258 ic_0 ?_
                      refine j_ialdN 0 dX11_item_259 (shM (Fm.M hs1 hM) sgM_21) (by omega) (by omega) ?_
                      refine j_topi (vv 0) (htl _ (by omega)) ?_
                      refine j_aload_n 0 dX11_item_260 rfl ?_
                      refine j_getr (q := 21) dX11_item_261 fX11_87 (shM (Fm.M hs1 hM) sgM_0) rfl (rfM (Fm.M hs1 hM) rfM_0_29) ?_
                      refine j_iconst 1 dX11_item_264 ic_1 ?_
                      refine j_ialdN 1 dX11_item_265 (shM (Fm.M hs1 hM) sgM_21) (by omega) (by omega) ?_
                      refine j_topi (vv 1) (htl _ (by omega)) ?_
                      refine j_aload_n 0 dX11_item_266 rfl ?_
                      refine j_getr (q := 21) dX11_item_267 fX11_87 (shM (Fm.M hs1 hM) sgM_0) rfl (rfM (Fm.M hs1 hM) rfM_0_29) ?_
                      refine j_iconst 2 dX11_item_270 ic_2 ?_
                      refine j_ialdN 2 dX11_item_271 (shM (Fm.M hs1 hM) sgM_21) (by omega) (by omega) ?_
                      refine j_topi (vv 2) (htl _ (by omega)) ?_
                      refine j_callV (kc := 0) (ks := 0) (a := 0) (b := 0) (d' := d) (As := [.int (vv 0), .int (vv 1), .int (vv 2)]) dX11_item_272 kX11_157 rfl (shM (Fm.M hs1 hM) sgM_0) (by omega) rfl rfl rfl (Nat.le_of_ble_eq_true rfl) (Nat.le_of_ble_eq_true rfl) (T_X11_addsThing (Fm.M hs1 hM) hm1 ok (vv 0) (vv 1) (vv 2) hlt) (kk_e (fun M200 hM201 => ?_))
                      obtain ⟨h0A, hvA⟩ := hM201
                      have smA : Fm PIt M M200 := Fm.tr hs1 (Fm.mo h0A PA_I)
                      refine j_pop dX11_item_275 rfl ?_
                      refine j_goto (tgt := 409) dX11_item_276 rfl ?_
                      refine j_iconst 1 dX11_item_409 ic_1 ?_
                      refine j_zret dX11_item_410 rfl rfl ?_
                      have hmv : mv M200.2.1 = apS S v (vv 0) (vv 1) (vv 2) := by
                        rw [hvk]
                        exact hvA
                      have h31e : M200.2.1 0 31 = nI q := (Fm.rd h0A (by unfold PA; omega)).trans h31b
                      exact hQ _ _ (Or.inl ⟨rfl, _, q, itS_3 hwd hr3 hn3, smA, hmv, h31e⟩)
                    by_cases c202 : (nI v) = 2
                    · refine j_tableIn (tgt := 279) dX11_item_185 (by rw [c202]; decide) (by rw [c202]; decide) (off := 94) (by rw [c202]; decide) rfl ?_
                      have hvk : v = 2 := (nI_eq (by omega) (by omega)).mp (c202 : nI v = nI 2)
                      have hnbk : nbN v = 2 := by rw [hvk]; rfl
                      have hm0 : mayS S 4 (vv 0) := by have q := hmay 0 (by omega) (by rw [hvk]; decide); rw [hvk] at q; exact q
                      rw [may_4] at hm0
                      obtain ⟨j0, hj0, ej0⟩ := in2 hm0
                      refine j_aload_n 0 dX11_item_279 rfl ?_
                      refine j_getr (q := 12) dX11_item_280 fX11_59 (shM (Fm.M hs1 hM) sgM_0) rfl (rfM (Fm.M hs1 hM) rfM_0_20) ?_
                      refine j_aload_n 0 dX11_item_283 rfl ?_
                      refine j_getr (q := 21) dX11_item_284 fX11_87 (shM (Fm.M hs1 hM) sgM_0) rfl (rfM (Fm.M hs1 hM) rfM_0_29) ?_
                      refine j_iconst 0 dX11_item_287 ic_0 ?_
                      refine j_ialdN 0 dX11_item_288 (shM (Fm.M hs1 hM) sgM_21) (by omega) (by omega) ?_
                      refine j_topi (nI j0) ((htl 0 (by omega)).trans ej0) ?_
                      refine j_aload_n 0 dX11_item_289 rfl ?_
                      refine j_getr (q := 21) dX11_item_290 fX11_87 (shM (Fm.M hs1 hM) sgM_0) rfl (rfM (Fm.M hs1 hM) rfM_0_29) ?_
                      refine j_iconst 1 dX11_item_293 ic_1 ?_
                      refine j_ialdN 1 dX11_item_294 (shM (Fm.M hs1 hM) sgM_21) (by omega) (by omega) ?_
                      refine j_topi (vv 1) (htl _ (by omega)) ?_
                      refine j_iastN j0 dX11_item_295 (shM (Fm.M hs1 hM) sgM_12) (by omega) (by omega) ?_
                      have sm203 : Fm PIt M (jk_wI M1 12 j0 (vv 1)) := Fm.w hs1 (by unfold PIt PH PQr; omega)
                      refine j_goto (tgt := 409) dX11_item_296 rfl ?_
                      refine j_iconst 1 dX11_item_409 ic_1 ?_
                      refine j_zret dX11_item_410 rfl rfl ?_
                      have hmv : mv (jk_wI M1 12 j0 (vv 1)).2.1 = apS S v (vv 0) (vv 1) (vv 2) := by
                        rw [hvk]
                        refine (show mv (jk_wI M1 12 j0 (vv 1)).2.1 = if vv 0 = 0 then upS S 5 0 (vv 1) else upS S 6 0 (vv 1) from ?_)
                        rcases (show j0 = 0 ∨ j0 = 1 by omega) with e | e
                        · subst e; rw [if_pos (show vv 0 = 0 from ej0)]; exact mv_sc (a := 5) hm1 (by decide) (by decide) (by decide) (by decide)
                        · subst e; rw [if_neg (by rw [ej0]; decide)]; exact mv_sc (a := 6) hm1 (by decide) (by decide) (by decide) (by decide)
                      have h31e : (jk_wI M1 12 j0 (vv 1)).2.1 0 31 = nI q := (rd_p (by omega)).trans h31b
                      exact hQ _ _ (Or.inl ⟨rfl, _, q, itS_3 hwd hr3 hn3, sm203, hmv, h31e⟩)
                    by_cases c204 : (nI v) = 3
                    · refine j_tableIn (tgt := 299) dX11_item_185 (by rw [c204]; decide) (by rw [c204]; decide) (off := 114) (by rw [c204]; decide) rfl ?_
                      have hvk : v = 3 := (nI_eq (by omega) (by omega)).mp (c204 : nI v = nI 3)
                      have hnbk : nbN v = 1 := by rw [hvk]; rfl
                      refine j_aload_n 0 dX11_item_299 rfl ?_
                      refine j_iconst 0 dX11_item_300 ic_0 ?_
                      refine j_aload_n 0 dX11_item_301 rfl ?_
                      refine j_getr (q := 21) dX11_item_302 fX11_87 (shM (Fm.M hs1 hM) sgM_0) rfl (rfM (Fm.M hs1 hM) rfM_0_29) ?_
                      refine j_iconst 0 dX11_item_305 ic_0 ?_
                      refine j_ialdN 0 dX11_item_306 (shM (Fm.M hs1 hM) sgM_21) (by omega) (by omega) ?_
                      refine j_topi (vv 0) (htl _ (by omega)) ?_
                      refine j_callV (kc := 0) (ks := 0) (a := 0) (b := 0) (d' := d) (As := [.int 0, .int (vv 0)]) dX11_item_307 kX11_177 rfl (shM (Fm.M hs1 hM) sgM_0) (by omega) rfl rfl rfl (Nat.le_of_ble_eq_true rfl) (Nat.le_of_ble_eq_true rfl) (T_tells0 (Fm.M hs1 hM) (vv 0)) (kk_pv ?_)
                      have sm205 : Fm PIt M (jk_wI M1 0 4 (vv 0)) := Fm.w hs1 (by unfold PIt PH PQr; omega)
                      refine j_goto (tgt := 409) dX11_item_310 rfl ?_
                      refine j_iconst 1 dX11_item_409 ic_1 ?_
                      refine j_zret dX11_item_410 rfl rfl ?_
                      have hmv : mv (jk_wI M1 0 4 (vv 0)).2.1 = apS S v (vv 0) (vv 1) (vv 2) := by
                        rw [hvk]
                        exact mv_sc (a := 1) hm1 (by decide) (by decide) (by decide) (by decide)
                      have h31e : (jk_wI M1 0 4 (vv 0)).2.1 0 31 = nI q := (rd_p (by omega)).trans h31b
                      exact hQ _ _ (Or.inl ⟨rfl, _, q, itS_3 hwd hr3 hn3, sm205, hmv, h31e⟩)
                    by_cases c206 : (nI v) = 4
                    · refine j_tableIn (tgt := 313) dX11_item_185 (by rw [c206]; decide) (by rw [c206]; decide) (off := 128) (by rw [c206]; decide) rfl ?_
                      have hvk : v = 4 := (nI_eq (by omega) (by omega)).mp (c206 : nI v = nI 4)
                      have hnbk : nbN v = 1 := by rw [hvk]; rfl
                      refine j_aload_n 0 dX11_item_313 rfl ?_
                      refine j_iconst 1 dX11_item_314 ic_1 ?_
                      refine j_aload_n 0 dX11_item_315 rfl ?_
                      refine j_getr (q := 21) dX11_item_316 fX11_87 (shM (Fm.M hs1 hM) sgM_0) rfl (rfM (Fm.M hs1 hM) rfM_0_29) ?_
                      refine j_iconst 0 dX11_item_319 ic_0 ?_
                      refine j_ialdN 0 dX11_item_320 (shM (Fm.M hs1 hM) sgM_21) (by omega) (by omega) ?_
                      refine j_topi (vv 0) (htl _ (by omega)) ?_
                      refine j_callV (kc := 0) (ks := 0) (a := 0) (b := 0) (d' := d) (As := [.int 1, .int (vv 0)]) dX11_item_321 kX11_177 rfl (shM (Fm.M hs1 hM) sgM_0) (by omega) rfl rfl rfl (Nat.le_of_ble_eq_true rfl) (Nat.le_of_ble_eq_true rfl) (T_tells1 (Fm.M hs1 hM) (vv 0)) (kk_pv ?_)
                      have sm207 : Fm PIt M (jk_wI M1 0 5 (vv 0)) := Fm.w hs1 (by unfold PIt PH PQr; omega)
                      refine j_goto (tgt := 409) dX11_item_324 rfl ?_
                      refine j_iconst 1 dX11_item_409 ic_1 ?_
                      refine j_zret dX11_item_410 rfl rfl ?_
                      have hmv : mv (jk_wI M1 0 5 (vv 0)).2.1 = apS S v (vv 0) (vv 1) (vv 2) := by
                        rw [hvk]
                        exact mv_sc (a := 2) hm1 (by decide) (by decide) (by decide) (by decide)
                      have h31e : (jk_wI M1 0 5 (vv 0)).2.1 0 31 = nI q := (rd_p (by omega)).trans h31b
                      exact hQ _ _ (Or.inl ⟨rfl, _, q, itS_3 hwd hr3 hn3, sm207, hmv, h31e⟩)
                    by_cases c208 : (nI v) = 5
                    · refine j_tableIn (tgt := 327) dX11_item_185 (by rw [c208]; decide) (by rw [c208]; decide) (off := 142) (by rw [c208]; decide) rfl ?_
                      have hvk : v = 5 := (nI_eq (by omega) (by omega)).mp (c208 : nI v = nI 5)
                      have hnbk : nbN v = 2 := by rw [hvk]; rfl
                      obtain ⟨hr1, hr5, hr6⟩ := hr3
                      have hlt := hr5 hvk
                      have hr3 : roomS S v := ⟨hr1, hr5, hr6⟩
                      refine j_aload_n 0 dX11_item_327 rfl ?_
                      refine j_aload_n 0 dX11_item_328 rfl ?_
                      refine j_getr (q := 21) dX11_item_329 fX11_87 (shM (Fm.M hs1 hM) sgM_0) rfl (rfM (Fm.M hs1 hM) rfM_0_29) ?_
                      refine j_iconst 0 dX11_item_332 ic_0 ?_
                      refine j_ialdN 0 dX11_item_333 (shM (Fm.M hs1 hM) sgM_21) (by omega) (by omega) ?_
                      refine j_topi (vv 0) (htl _ (by omega)) ?_
                      refine j_aload_n 0 dX11_item_334 rfl ?_
                      refine j_getr (q := 21) dX11_item_335 fX11_87 (shM (Fm.M hs1 hM) sgM_0) rfl (rfM (Fm.M hs1 hM) rfM_0_29) ?_
                      refine j_iconst 1 dX11_item_338 ic_1 ?_
                      refine j_ialdN 1 dX11_item_339 (shM (Fm.M hs1 hM) sgM_21) (by omega) (by omega) ?_
                      refine j_topi (vv 1) (htl _ (by omega)) ?_
                      refine j_callV (kc := 0) (ks := 0) (a := 0) (b := 0) (d' := d) (As := [.int (vv 0), .int (vv 1)]) dX11_item_340 kX11_161 rfl (shM (Fm.M hs1 hM) sgM_0) (by omega) rfl rfl rfl (Nat.le_of_ble_eq_true rfl) (Nat.le_of_ble_eq_true rfl) (T_X11_addsNeighbour (Fm.M hs1 hM) hm1 ok (vv 0) (vv 1) hlt) (kk_e (fun M209 hM210 => ?_))
                      obtain ⟨h0A, hvA⟩ := hM210
                      have smA : Fm PIt M M209 := Fm.tr hs1 (Fm.mo h0A PA_I)
                      refine j_pop dX11_item_343 rfl ?_
                      refine j_goto (tgt := 409) dX11_item_344 rfl ?_
                      refine j_iconst 1 dX11_item_409 ic_1 ?_
                      refine j_zret dX11_item_410 rfl rfl ?_
                      have hmv : mv M209.2.1 = apS S v (vv 0) (vv 1) (vv 2) := by
                        rw [hvk]
                        exact hvA
                      have h31e : M209.2.1 0 31 = nI q := (Fm.rd h0A (by unfold PA; omega)).trans h31b
                      exact hQ _ _ (Or.inl ⟨rfl, _, q, itS_3 hwd hr3 hn3, smA, hmv, h31e⟩)
                    by_cases c211 : (nI v) = 6
                    · refine j_tableIn (tgt := 347) dX11_item_185 (by rw [c211]; decide) (by rw [c211]; decide) (off := 162) (by rw [c211]; decide) rfl ?_
                      have hvk : v = 6 := (nI_eq (by omega) (by omega)).mp (c211 : nI v = nI 6)
                      have hnbk : nbN v = 3 := by rw [hvk]; rfl
                      obtain ⟨hr1, hr5, hr6⟩ := hr3
                      have hlt := hr6 hvk
                      have hr3 : roomS S v := ⟨hr1, hr5, hr6⟩
                      refine j_aload_n 0 dX11_item_347 rfl ?_
                      refine j_aload_n 0 dX11_item_348 rfl ?_
                      refine j_getr (q := 21) dX11_item_349 fX11_87 (shM (Fm.M hs1 hM) sgM_0) rfl (rfM (Fm.M hs1 hM) rfM_0_29) ?_
                      refine j_iconst 0 dX11_item_352 ic_0 ?_
                      refine j_ialdN 0 dX11_item_353 (shM (Fm.M hs1 hM) sgM_21) (by omega) (by omega) ?_
                      refine j_topi (vv 0) (htl _ (by omega)) ?_
                      refine j_aload_n 0 dX11_item_354 rfl ?_
                      refine j_getr (q := 21) dX11_item_355 fX11_87 (shM (Fm.M hs1 hM) sgM_0) rfl (rfM (Fm.M hs1 hM) rfM_0_29) ?_
                      refine j_iconst 1 dX11_item_358 ic_1 ?_
                      refine j_ialdN 1 dX11_item_359 (shM (Fm.M hs1 hM) sgM_21) (by omega) (by omega) ?_
                      refine j_topi (vv 1) (htl _ (by omega)) ?_
                      refine j_aload_n 0 dX11_item_360 rfl ?_
                      refine j_getr (q := 21) dX11_item_361 fX11_87 (shM (Fm.M hs1 hM) sgM_0) rfl (rfM (Fm.M hs1 hM) rfM_0_29) ?_
                      refine j_iconst 2 dX11_item_364 ic_2 ?_
                      refine j_ialdN 2 dX11_item_365 (shM (Fm.M hs1 hM) sgM_21) (by omega) (by omega) ?_
                      refine j_topi (vv 2) (htl _ (by omega)) ?_
                      refine j_callV (kc := 0) (ks := 0) (a := 0) (b := 0) (d' := d) (As := [.int (vv 0), .int (vv 1), .int (vv 2)]) dX11_item_366 kX11_164 rfl (shM (Fm.M hs1 hM) sgM_0) (by omega) rfl rfl rfl (Nat.le_of_ble_eq_true rfl) (Nat.le_of_ble_eq_true rfl) (T_X11_addsDevice (Fm.M hs1 hM) hm1 ok (vv 0) (vv 1) (vv 2) hlt) (kk_e (fun M212 hM213 => ?_))
                      obtain ⟨h0A, hvA⟩ := hM213
                      have smA : Fm PIt M M212 := Fm.tr hs1 (Fm.mo h0A PA_I)
                      refine j_pop dX11_item_369 rfl ?_
                      refine j_goto (tgt := 409) dX11_item_370 rfl ?_
                      refine j_iconst 1 dX11_item_409 ic_1 ?_
                      refine j_zret dX11_item_410 rfl rfl ?_
                      have hmv : mv M212.2.1 = apS S v (vv 0) (vv 1) (vv 2) := by
                        rw [hvk]
                        exact hvA
                      have h31e : M212.2.1 0 31 = nI q := (Fm.rd h0A (by unfold PA; omega)).trans h31b
                      exact hQ _ _ (Or.inl ⟨rfl, _, q, itS_3 hwd hr3 hn3, smA, hmv, h31e⟩)
                    by_cases c214 : (nI v) = 7
                    · refine j_tableIn (tgt := 387) dX11_item_185 (by rw [c214]; decide) (by rw [c214]; decide) (off := 202) (by rw [c214]; decide) rfl ?_
                      have hvk : v = 7 := (nI_eq (by omega) (by omega)).mp (c214 : nI v = nI 7)
                      have hnbk : nbN v = 1 := by rw [hvk]; rfl
                      have hm0 : mayS S 10 (vv 0) := by have q := hmay 0 (by omega) (by rw [hvk]; decide); rw [hvk] at q; exact q
                      obtain ⟨j0, hj0, ej0⟩ := may10 ok hm0
                      refine j_aload_n 0 dX11_item_387 rfl ?_
                      refine j_getr (q := 5) dX11_item_388 fX11_38 (shM (Fm.M hs1 hM) sgM_0) rfl (rfM (Fm.M hs1 hM) rfM_0_13) ?_
                      refine j_aload_n 0 dX11_item_391 rfl ?_
                      refine j_getr (q := 21) dX11_item_392 fX11_87 (shM (Fm.M hs1 hM) sgM_0) rfl (rfM (Fm.M hs1 hM) rfM_0_29) ?_
                      refine j_iconst 0 dX11_item_395 ic_0 ?_
                      refine j_ialdN 0 dX11_item_396 (shM (Fm.M hs1 hM) sgM_21) (by omega) (by omega) ?_
                      refine j_topi (nI j0) ((htl 0 (by omega)).trans ej0) ?_
                      refine j_iload_n 1 dX11_item_397 rfl ?_
                      refine j_bipush 8 dX11_item_398 bp_8 ?_
                      refine j_icmp_neN (tgt := 407) v 8 dX11_item_400 rfl (by omega) (by omega) (fun c215 => ?_) (fun c215 => ?_)
                      · refine j_iconst 0 dX11_item_407 ic_0 ?_
                        refine j_iastN j0 dX11_item_408 (shM (Fm.M hs1 hM) sgM_5) (by omega) (by omega) ?_
                        have sm216 : Fm PIt M (jk_wI M1 5 j0 0) := Fm.w hs1 (by unfold PIt PH PQr; omega)
                        refine j_iconst 1 dX11_item_409 ic_1 ?_
                        refine j_zret dX11_item_410 rfl rfl ?_
                        have hmv : mv (jk_wI M1 5 j0 0).2.1 = apS S v (vv 0) (vv 1) (vv 2) := by
                          rw [hvk]
                          show mv (jk_wI M1 5 j0 0).2.1 = upS S 13 (vv 0).toNatClampNeg 0
                          rw [ej0, nI_clamp (by omega)]; exact mv_ar (a := 13) hm1 (by omega)
                        have h31e : (jk_wI M1 5 j0 0).2.1 0 31 = nI q := (rd_p (by omega)).trans h31b
                        exact hQ _ _ (Or.inl ⟨rfl, _, q, itS_3 hwd hr3 hn3, sm216, hmv, h31e⟩)
                      · exact absurd (hvk.symm.trans c215) (by decide)
                    by_cases c217 : (nI v) = 8
                    · refine j_tableIn (tgt := 387) dX11_item_185 (by rw [c217]; decide) (by rw [c217]; decide) (off := 202) (by rw [c217]; decide) rfl ?_
                      have hvk : v = 8 := (nI_eq (by omega) (by omega)).mp (c217 : nI v = nI 8)
                      have hnbk : nbN v = 1 := by rw [hvk]; rfl
                      have hm0 : mayS S 10 (vv 0) := by have q := hmay 0 (by omega) (by rw [hvk]; decide); rw [hvk] at q; exact q
                      obtain ⟨j0, hj0, ej0⟩ := may10 ok hm0
                      refine j_aload_n 0 dX11_item_387 rfl ?_
                      refine j_getr (q := 5) dX11_item_388 fX11_38 (shM (Fm.M hs1 hM) sgM_0) rfl (rfM (Fm.M hs1 hM) rfM_0_13) ?_
                      refine j_aload_n 0 dX11_item_391 rfl ?_
                      refine j_getr (q := 21) dX11_item_392 fX11_87 (shM (Fm.M hs1 hM) sgM_0) rfl (rfM (Fm.M hs1 hM) rfM_0_29) ?_
                      refine j_iconst 0 dX11_item_395 ic_0 ?_
                      refine j_ialdN 0 dX11_item_396 (shM (Fm.M hs1 hM) sgM_21) (by omega) (by omega) ?_
                      refine j_topi (nI j0) ((htl 0 (by omega)).trans ej0) ?_
                      refine j_iload_n 1 dX11_item_397 rfl ?_
                      refine j_bipush 8 dX11_item_398 bp_8 ?_
                      refine j_icmp_neN (tgt := 407) v 8 dX11_item_400 rfl (by omega) (by omega) (fun c218 => ?_) (fun c218 => ?_)
                      · exact absurd hvk c218
                      · refine j_iconst 1 dX11_item_403 ic_1 ?_
                        refine j_goto (tgt := 408) dX11_item_404 rfl ?_
                        refine j_iastN j0 dX11_item_408 (shM (Fm.M hs1 hM) sgM_5) (by omega) (by omega) ?_
                        have sm219 : Fm PIt M (jk_wI M1 5 j0 1) := Fm.w hs1 (by unfold PIt PH PQr; omega)
                        refine j_iconst 1 dX11_item_409 ic_1 ?_
                        refine j_zret dX11_item_410 rfl rfl ?_
                        have hmv : mv (jk_wI M1 5 j0 1).2.1 = apS S v (vv 0) (vv 1) (vv 2) := by
                          rw [hvk]
                          show mv (jk_wI M1 5 j0 1).2.1 = upS S 13 (vv 0).toNatClampNeg 1
                          rw [ej0, nI_clamp (by omega)]; exact mv_ar (a := 13) hm1 (by omega)
                        have h31e : (jk_wI M1 5 j0 1).2.1 0 31 = nI q := (rd_p (by omega)).trans h31b
                        exact hQ _ _ (Or.inl ⟨rfl, _, q, itS_3 hwd hr3 hn3, sm219, hmv, h31e⟩)
                    by_cases c220 : (nI v) = 9
                    · refine j_tableIn (tgt := 373) dX11_item_185 (by rw [c220]; decide) (by rw [c220]; decide) (off := 188) (by rw [c220]; decide) rfl ?_
                      have hvk : v = 9 := (nI_eq (by omega) (by omega)).mp (c220 : nI v = nI 9)
                      have hnbk : nbN v = 1 := by rw [hvk]; rfl
                      refine j_aload_n 0 dX11_item_373 rfl ?_
                      refine j_iconst 2 dX11_item_374 ic_2 ?_
                      refine j_aload_n 0 dX11_item_375 rfl ?_
                      refine j_getr (q := 21) dX11_item_376 fX11_87 (shM (Fm.M hs1 hM) sgM_0) rfl (rfM (Fm.M hs1 hM) rfM_0_29) ?_
                      refine j_iconst 0 dX11_item_379 ic_0 ?_
                      refine j_ialdN 0 dX11_item_380 (shM (Fm.M hs1 hM) sgM_21) (by omega) (by omega) ?_
                      refine j_topi (vv 0) (htl _ (by omega)) ?_
                      refine j_callV (kc := 0) (ks := 0) (a := 0) (b := 0) (d' := d) (As := [.int 2, .int (vv 0)]) dX11_item_381 kX11_177 rfl (shM (Fm.M hs1 hM) sgM_0) (by omega) rfl rfl rfl (Nat.le_of_ble_eq_true rfl) (Nat.le_of_ble_eq_true rfl) (T_tells2 (Fm.M hs1 hM) (vv 0)) (kk_pv ?_)
                      have sm221 : Fm PIt M (jk_wI M1 0 6 (vv 0)) := Fm.w hs1 (by unfold PIt PH PQr; omega)
                      refine j_goto (tgt := 409) dX11_item_384 rfl ?_
                      refine j_iconst 1 dX11_item_409 ic_1 ?_
                      refine j_zret dX11_item_410 rfl rfl ?_
                      have hmv : mv (jk_wI M1 0 6 (vv 0)).2.1 = apS S v (vv 0) (vv 1) (vv 2) := by
                        rw [hvk]
                        exact mv_sc (a := 3) hm1 (by decide) (by decide) (by decide) (by decide)
                      have h31e : (jk_wI M1 0 6 (vv 0)).2.1 0 31 = nI q := (rd_p (by omega)).trans h31b
                      exact hQ _ _ (Or.inl ⟨rfl, _, q, itS_3 hwd hr3 hn3, sm221, hmv, h31e⟩)
                    have hv10b : v = 0 ∨ v = 1 ∨ v = 2 ∨ v = 3 ∨ v = 4 ∨ v = 5 ∨ v = 6 ∨ v = 7 ∨ v = 8 ∨ v = 9 := by omega
                    exfalso
                    rcases hv10b with rfl | rfl | rfl | rfl | rfl | rfl | rfl | rfl | rfl | rfl
                    · exact c197 rfl
                    · exact c199 rfl
                    · exact c202 rfl
                    · exact c204 rfl
                    · exact c206 rfl
                    · exact c208 rfl
                    · exact c211 rfl
                    · exact c214 rfl
                    · exact c217 rfl
                    · exact c220 rfl
                  · refine j_iload_n 2 dX11_item_85 rfl ?_
                    refine j_if_leN (tgt := 139) i dX11_item_86 (by omega) rfl (fun c222 => ?_) (fun c222 => ?_)
                    · refine j_aload_n 0 dX11_item_139 rfl ?_
                      refine j_getv (nI (q + 1)) dX11_item_140 fX11_193 (shM (Fm.M hs1 hM) sgM_0) rfl (hpl.resolve_right (fun z => by omega)).2.1 ?_
                      refine j_istore_n (L' := [(3, .int (nI (q + 1))), (0, .ref 0), (1, .int (nI v)), (2, .int (nI i))]) dX11_item_143 (by decide) rfl ?_
                      have hmB : mv M1.2.1 = S := hm1
                      have hp1 : M1.2.1 0 31 = nI (q + 1) := (hpl.resolve_right (fun z => by omega)).2.1
                      have hsp : q < n ∧ t q = 32 := by first | exact ⟨by omega, by assumption⟩ | exact (hpl.resolve_right (fun z => by omega)).2.2
                      refine j_aload_n 1 dX11_item_144 rfl ?_
                      refine j_callV (kc := 0) (ks := 0) (a := 0) (b := 0) (d' := (d + 1)) (As := []) dX11_item_145 kX11_219 rfl (shM (Fm.M hs1 hM) sgM_0) (by omega) rfl rfl rfl (Nat.le_of_ble_eq_true rfl) (Nat.le_of_ble_eq_true rfl) (T_X11_reads (Fm.M hs1 hM) (RX.it rx hs1) hp1 (by omega)) (kk_o (fun M223 hM224 => ?_) (fun M225 hM226 => ?_))
                      · obtain ⟨hdg, h0R, h33, h31⟩ := hM224
                        have sm227 : Fm PIt M M223 := Fm.tr hs1 (Fm.mo h0R PQr_I)
                        have hmR : mv M223.2.1 = S := Fm.mv h0R hmB (fun q k h => by unfold PH at h; unfold PQr; omega)
                        refine j_if_ne (tgt := 153) dX11_item_148 rfl (fun c228 => ?_) (fun c228 => ?_)
                        · refine j_aload_n 1 dX11_item_153 rfl ?_
                          refine j_iload_n 2 dX11_item_154 rfl ?_
                          refine j_iload_n 3 dX11_item_155 rfl ?_
                          refine j_callV (kc := 0) (ks := 0) (a := 0) (b := 0) (d' := (d + 2)) (As := [.int (nI v), .int (nI i)]) dX11_item_156 kX11_222 rfl (shM (Fm.M sm227 hM) sgM_0) (by omega) rfl rfl rfl (Nat.le_of_ble_eq_true rfl) (Nat.le_of_ble_eq_true rfl) (T_X11_isSo (Fm.M sm227 hM) hmR ok (nuV_pos hdg) h33 (w := v) (i := i) hv10 (by omega)) (kk_p ?_)
                          refine j_if_neB (p := (mayS S (soN v i) (nuV n t (q + 1)).1)) (tgt := 168) dX11_item_159 rfl (fun c229 => ?_) (fun c229 => ?_)
                          · refine j_aload_n 1 dX11_item_168 rfl ?_
                            refine j_getr (q := 21) dX11_item_169 fX11_87 (shM (Fm.M sm227 hM) sgM_0) rfl (rfM (Fm.M sm227 hM) rfM_0_29) ?_
                            refine j_iload_n 3 dX11_item_172 rfl ?_
                            refine j_aload_n 1 dX11_item_173 rfl ?_
                            refine j_getv (nuV n t (q + 1)).1 dX11_item_174 fX11_202 (shM (Fm.M sm227 hM) sgM_0) rfl h33 ?_
                            refine j_iastN i dX11_item_177 (shM (Fm.M sm227 hM) sgM_21) (by omega) (by omega) ?_
                            have sm230 : Fm PIt M (jk_wI M223 21 i (nuV n t (q + 1)).1) := Fm.w sm227 (by unfold PIt PH PQr; omega)
                            refine j_iinc 3 (nI (i + 1)) (L' := [(2, .int (nI (i + 1))), (3, .int (nI (q + 1))), (0, .ref 0), (1, .int (nI v))]) dX11_item_178 rfl (inc1 i) (by decide) rfl ?_
                            refine j_goto (tgt := 75) dX11_item_181 rfl ?_
                            exact j_sub (jk_pick [2, 3, 0] rfl) (ih193 (i + 1) ((nuV n t (q + 1)).2) (va_up vv i (nuV n t (q + 1)).1) (jk_wI M223 21 i (nuV n t (q + 1)).1) (by omega) (by omega) (nuL_y hnu (so_n hv10 (by omega)) (nuS_3 hsp hdg (by assumption))) sm230 (Fm.mv (P := fun q k => q = 21) (Fm.w Fm.rf rfl) hmR (fun q k h z => by unfold PH at h; omega)) (fun k hk => by
          by_cases e : k = i
          · rw [e, rd_s, va_up_self]
          · rw [rd_k e, va_up_ne _ _ e, Fm.rd h0R (by unfold PQr; omega)]; first | exact htl k (by omega) | exact (rd_o (by decide)).trans (htl k (by omega))) (Or.inr ⟨by omega, (rd_o (by decide)).trans h31⟩) (nuS_in (nuS_3 hsp hdg (by assumption))).2.2.2)
                          · refine j_aload_n 1 dX11_item_162 rfl ?_
                            refine j_iload_n 0 dX11_item_163 rfl ?_
                            refine j_callV (kc := 0) (ks := 0) (a := 0) (b := 0) (d' := d) (As := [.int (nI (q + 1))]) dX11_item_164 kX11_209 rfl (shM (Fm.M sm227 hM) sgM_0) (by omega) rfl rfl rfl (Nat.le_of_ble_eq_true rfl) (Nat.le_of_ble_eq_true rfl) (T_X11_wrong (Fm.M sm227 hM) (nI (q + 1))) (kk_p ?_)
                            have sm231 : Fm PIt M (jk_wI M223 0 34 (nI (q + 1))) := Fm.w sm227 (by unfold PIt PH PQr; omega)
                            refine j_zret dX11_item_167 rfl rfl ?_
                            have hf : nuL S n t v (p + jk_sL.getD v 0) 3 = .inl (q + 1) := nu_stop (by omega) (nuL_n hnu (so_n hv10 (by omega)) (nuS_2 hsp hdg (by assumption)))
                            exact hQ _ _ (Or.inr ⟨rfl, q + 1, itS_2 hwd hr3 hf, sm231, rd_s⟩)
                        · exact absurd c228 (by decide)
                      · obtain ⟨hdg, h0R, h34⟩ := hM226
                        have sm232 : Fm PIt M M225 := Fm.tr hs1 (Fm.mo h0R PQr_I)
                        refine j_if_ne (tgt := 153) dX11_item_148 rfl (fun c233 => ?_) (fun c233 => ?_)
                        · exact absurd c233 (by decide)
                        · refine j_iconst 0 dX11_item_151 ic_0 ?_
                          refine j_zret dX11_item_152 rfl rfl ?_
                          have hf : nuL S n t v (p + jk_sL.getD v 0) 3 = .inl (q + 1) := nu_stop (by omega) (nuL_n hnu (so_n hv10 (by omega)) (nuS_1 hsp hdg))
                          exact hQ _ _ (Or.inr ⟨rfl, q + 1, itS_2 hwd hr3 hf, sm232, h34⟩)
                    · refine j_aload_n 0 dX11_item_89 rfl ?_
                      refine j_getv (nI q) dX11_item_90 fX11_193 (shM (Fm.M hs1 hM) sgM_0) rfl (hpl.resolve_left (fun z => by omega)).2 ?_
                      refine j_aload_n 0 dX11_item_93 rfl ?_
                      refine j_getv (nI n) dX11_item_94 fX11_196 (shM (Fm.M hs1 hM) sgM_0) rfl (RX.it rx hs1).2.2.2.1 ?_
                      refine j_icmp_geN (tgt := 120) q n dX11_item_97 rfl (by omega) (by omega) (fun c234 => ?_) (fun c234 => ?_)
                      · refine j_aload_n 0 dX11_item_120 rfl ?_
                        refine j_aload_n 0 dX11_item_121 rfl ?_
                        refine j_getv (nI q) dX11_item_122 fX11_193 (shM (Fm.M hs1 hM) sgM_0) rfl (hpl.resolve_left (fun z => by omega)).2 ?_
                        refine j_callV (kc := 0) (ks := 0) (a := 0) (b := 0) (d' := d) (As := [.int (nI q)]) dX11_item_125 kX11_209 rfl (shM (Fm.M hs1 hM) sgM_0) (by omega) rfl rfl rfl (Nat.le_of_ble_eq_true rfl) (Nat.le_of_ble_eq_true rfl) (T_X11_wrong (Fm.M hs1 hM) (nI q)) (kk_p ?_)
                        have sm235 : Fm PIt M (jk_wI M1 0 34 (nI q)) := Fm.w hs1 (by unfold PIt PH PQr; omega)
                        refine j_zret dX11_item_128 rfl rfl ?_
                        have hf : nuL S n t v (p + jk_sL.getD v 0) 3 = .inl q := nu_stop (by omega) (nuL_n hnu (so_n hv10 (by omega)) (nuS_0 (fun z => by have z1 := z.1; have z2 := z.2; first | omega | exact absurd z2 (by assumption))))
                        exact hQ _ _ (Or.inr ⟨rfl, q, itS_2 hwd hr3 hf, sm235, rd_s⟩)
                      · refine j_aload_n 0 dX11_item_100 rfl ?_
                        refine j_getr (q := 17) dX11_item_101 fX11_74 (shM (Fm.M hs1 hM) sgM_0) rfl (rfM (Fm.M hs1 hM) rfM_0_25) ?_
                        refine j_aload_n 0 dX11_item_104 rfl ?_
                        refine j_getv (nI b) dX11_item_105 fX11_199 (shM (Fm.M hs1 hM) sgM_0) rfl (RX.it rx hs1).2.2.1 ?_
                        refine j_aload_n 0 dX11_item_108 rfl ?_
                        refine j_getv (nI q) dX11_item_109 fX11_193 (shM (Fm.M hs1 hM) sgM_0) rfl (hpl.resolve_left (fun z => by omega)).2 ?_
                        refine j_iaddN b q dX11_item_112 ?_
                        refine j_laldN (b + q) dX11_item_113 (shM (Fm.M hs1 hM) sgM_17) (by omega) (by omega) ?_
                        refine j_l2i dX11_item_114 ?_
                        refine j_topi (t q) ((RX.it rx hs1).2.2.2.2.1 _ (by omega)) ?_
                        refine j_bipush 32 dX11_item_115 bp_32 ?_
                        refine j_icmp_eq (tgt := 129) dX11_item_117 rfl (fun c236 => ?_) (fun c236 => ?_)
                        · refine j_aload_n 0 dX11_item_129 rfl ?_
                          refine j_dup dX11_item_130 rfl ?_
                          refine j_getv (nI q) dX11_item_131 fX11_193 (shM (Fm.M hs1 hM) sgM_0) rfl (hpl.resolve_left (fun z => by omega)).2 ?_
                          refine j_iconst 1 dX11_item_134 ic_1 ?_
                          refine j_iaddN q 1 dX11_item_135 ?_
                          refine j_put dX11_item_136 fX11_193 (shM (Fm.M hs1 hM) sgM_0) rfl ?_
                          have sm237 : Fm PIt M (jk_wI M1 0 31 (nI (q + 1))) := Fm.w hs1 (by unfold PIt PH PQr; omega)
                          refine j_aload_n 0 dX11_item_139 rfl ?_
                          refine j_getv (nI (q + 1)) dX11_item_140 fX11_193 (shM (Fm.M sm237 hM) sgM_0) rfl rd_s ?_
                          refine j_istore_n (L' := [(3, .int (nI (q + 1))), (0, .ref 0), (1, .int (nI v)), (2, .int (nI i))]) dX11_item_143 (by decide) rfl ?_
                          have hmB : mv (jk_wI M1 0 31 (nI (q + 1))).2.1 = S := (Fm.mv (P := PQr) (Fm.w Fm.rf (by unfold PQr; omega)) hm1 (fun q k h => by unfold PH at h; unfold PQr; omega))
                          have hp1 : (jk_wI M1 0 31 (nI (q + 1))).2.1 0 31 = nI (q + 1) := rd_s
                          have hsp : q < n ∧ t q = 32 := by first | exact ⟨by omega, by assumption⟩ | exact (hpl.resolve_right (fun z => by omega)).2.2
                          refine j_aload_n 1 dX11_item_144 rfl ?_
                          refine j_callV (kc := 0) (ks := 0) (a := 0) (b := 0) (d' := (d + 1)) (As := []) dX11_item_145 kX11_219 rfl (shM (Fm.M sm237 hM) sgM_0) (by omega) rfl rfl rfl (Nat.le_of_ble_eq_true rfl) (Nat.le_of_ble_eq_true rfl) (T_X11_reads (Fm.M sm237 hM) (RX.it rx sm237) hp1 (by omega)) (kk_o (fun M238 hM239 => ?_) (fun M240 hM241 => ?_))
                          · obtain ⟨hdg, h0R, h33, h31⟩ := hM239
                            have sm242 : Fm PIt M M238 := Fm.tr sm237 (Fm.mo h0R PQr_I)
                            have hmR : mv M238.2.1 = S := Fm.mv h0R hmB (fun q k h => by unfold PH at h; unfold PQr; omega)
                            refine j_if_ne (tgt := 153) dX11_item_148 rfl (fun c243 => ?_) (fun c243 => ?_)
                            · refine j_aload_n 1 dX11_item_153 rfl ?_
                              refine j_iload_n 2 dX11_item_154 rfl ?_
                              refine j_iload_n 3 dX11_item_155 rfl ?_
                              refine j_callV (kc := 0) (ks := 0) (a := 0) (b := 0) (d' := (d + 2)) (As := [.int (nI v), .int (nI i)]) dX11_item_156 kX11_222 rfl (shM (Fm.M sm242 hM) sgM_0) (by omega) rfl rfl rfl (Nat.le_of_ble_eq_true rfl) (Nat.le_of_ble_eq_true rfl) (T_X11_isSo (Fm.M sm242 hM) hmR ok (nuV_pos hdg) h33 (w := v) (i := i) hv10 (by omega)) (kk_p ?_)
                              refine j_if_neB (p := (mayS S (soN v i) (nuV n t (q + 1)).1)) (tgt := 168) dX11_item_159 rfl (fun c244 => ?_) (fun c244 => ?_)
                              · refine j_aload_n 1 dX11_item_168 rfl ?_
                                refine j_getr (q := 21) dX11_item_169 fX11_87 (shM (Fm.M sm242 hM) sgM_0) rfl (rfM (Fm.M sm242 hM) rfM_0_29) ?_
                                refine j_iload_n 3 dX11_item_172 rfl ?_
                                refine j_aload_n 1 dX11_item_173 rfl ?_
                                refine j_getv (nuV n t (q + 1)).1 dX11_item_174 fX11_202 (shM (Fm.M sm242 hM) sgM_0) rfl h33 ?_
                                refine j_iastN i dX11_item_177 (shM (Fm.M sm242 hM) sgM_21) (by omega) (by omega) ?_
                                have sm245 : Fm PIt M (jk_wI M238 21 i (nuV n t (q + 1)).1) := Fm.w sm242 (by unfold PIt PH PQr; omega)
                                refine j_iinc 3 (nI (i + 1)) (L' := [(2, .int (nI (i + 1))), (3, .int (nI (q + 1))), (0, .ref 0), (1, .int (nI v))]) dX11_item_178 rfl (inc1 i) (by decide) rfl ?_
                                refine j_goto (tgt := 75) dX11_item_181 rfl ?_
                                exact j_sub (jk_pick [2, 3, 0] rfl) (ih193 (i + 1) ((nuV n t (q + 1)).2) (va_up vv i (nuV n t (q + 1)).1) (jk_wI M238 21 i (nuV n t (q + 1)).1) (by omega) (by omega) (nuL_y hnu (so_n hv10 (by omega)) (nuS_3 hsp hdg (by assumption))) sm245 (Fm.mv (P := fun q k => q = 21) (Fm.w Fm.rf rfl) hmR (fun q k h z => by unfold PH at h; omega)) (fun k hk => by
          by_cases e : k = i
          · rw [e, rd_s, va_up_self]
          · rw [rd_k e, va_up_ne _ _ e, Fm.rd h0R (by unfold PQr; omega)]; first | exact htl k (by omega) | exact (rd_o (by decide)).trans (htl k (by omega))) (Or.inr ⟨by omega, (rd_o (by decide)).trans h31⟩) (nuS_in (nuS_3 hsp hdg (by assumption))).2.2.2)
                              · refine j_aload_n 1 dX11_item_162 rfl ?_
                                refine j_iload_n 0 dX11_item_163 rfl ?_
                                refine j_callV (kc := 0) (ks := 0) (a := 0) (b := 0) (d' := d) (As := [.int (nI (q + 1))]) dX11_item_164 kX11_209 rfl (shM (Fm.M sm242 hM) sgM_0) (by omega) rfl rfl rfl (Nat.le_of_ble_eq_true rfl) (Nat.le_of_ble_eq_true rfl) (T_X11_wrong (Fm.M sm242 hM) (nI (q + 1))) (kk_p ?_)
                                have sm246 : Fm PIt M (jk_wI M238 0 34 (nI (q + 1))) := Fm.w sm242 (by unfold PIt PH PQr; omega)
                                refine j_zret dX11_item_167 rfl rfl ?_
                                have hf : nuL S n t v (p + jk_sL.getD v 0) 3 = .inl (q + 1) := nu_stop (by omega) (nuL_n hnu (so_n hv10 (by omega)) (nuS_2 hsp hdg (by assumption)))
                                exact hQ _ _ (Or.inr ⟨rfl, q + 1, itS_2 hwd hr3 hf, sm246, rd_s⟩)
                            · exact absurd c243 (by decide)
                          · obtain ⟨hdg, h0R, h34⟩ := hM241
                            have sm247 : Fm PIt M M240 := Fm.tr sm237 (Fm.mo h0R PQr_I)
                            refine j_if_ne (tgt := 153) dX11_item_148 rfl (fun c248 => ?_) (fun c248 => ?_)
                            · exact absurd c248 (by decide)
                            · refine j_iconst 0 dX11_item_151 ic_0 ?_
                              refine j_zret dX11_item_152 rfl rfl ?_
                              have hf : nuL S n t v (p + jk_sL.getD v 0) 3 = .inl (q + 1) := nu_stop (by omega) (nuL_n hnu (so_n hv10 (by omega)) (nuS_1 hsp hdg))
                              exact hQ _ _ (Or.inr ⟨rfl, q + 1, itS_2 hwd hr3 hf, sm247, h34⟩)
                        · refine j_aload_n 0 dX11_item_120 rfl ?_
                          refine j_aload_n 0 dX11_item_121 rfl ?_
                          refine j_getv (nI q) dX11_item_122 fX11_193 (shM (Fm.M hs1 hM) sgM_0) rfl (hpl.resolve_left (fun z => by omega)).2 ?_
                          refine j_callV (kc := 0) (ks := 0) (a := 0) (b := 0) (d' := d) (As := [.int (nI q)]) dX11_item_125 kX11_209 rfl (shM (Fm.M hs1 hM) sgM_0) (by omega) rfl rfl rfl (Nat.le_of_ble_eq_true rfl) (Nat.le_of_ble_eq_true rfl) (T_X11_wrong (Fm.M hs1 hM) (nI q)) (kk_p ?_)
                          have sm249 : Fm PIt M (jk_wI M1 0 34 (nI q)) := Fm.w hs1 (by unfold PIt PH PQr; omega)
                          refine j_zret dX11_item_128 rfl rfl ?_
                          have hf : nuL S n t v (p + jk_sL.getD v 0) 3 = .inl q := nu_stop (by omega) (nuL_n hnu (so_n hv10 (by omega)) (nuS_0 (fun z => by have z1 := z.1; have z2 := z.2; first | omega | exact absurd z2 (by assumption))))
                          exact hQ _ _ (Or.inr ⟨rfl, q, itS_2 hwd hr3 hf, sm249, rd_s⟩)
              exact j_sub (jk_pick [2, 1, 0] rfl) (lp194 _ 0 (p + jk_sL.getD v 0) (fun _ => 0) (jk_wI M 0 31 (nI (p + jk_sL.getD v 0 + 1))) (Nat.lt_succ_self _) (Nat.zero_le _) rfl sm190 hmW (fun k hk => absurd hk (Nat.not_lt_zero k)) (Or.inl ⟨rfl, rd_s, hspc⟩) (by omega))
            · exact absurd c191 (nI_n1 (by omega))
          · refine j_aload_n 0 dX11_item_52 rfl ?_
            refine j_aload_n 0 dX11_item_53 rfl ?_
            refine j_getv (nI p) dX11_item_54 fX11_193 (shM hM sgM_0) rfl hp ?_
            refine j_callV (kc := 0) (ks := 0) (a := 0) (b := 0) (d' := d) (As := [.int (nI p)]) dX11_item_57 kX11_209 rfl (shM hM sgM_0) (by omega) rfl rfl rfl (Nat.le_of_ble_eq_true rfl) (Nat.le_of_ble_eq_true rfl) (T_X11_wrong hM (nI p)) (kk_p ?_)
            have sm250 : Fm PIt M (jk_wI M 0 34 (nI p)) := Fm.w Fm.rf (by unfold PIt PH PQr; omega)
            refine j_zret dX11_item_60 rfl rfl ?_
            exact hQ _ _ (Or.inr ⟨rfl, p, itS_1 (wd_of (w := 6) (by decide) (by assumption)) (fun z => by have q := z.2.2 rfl; omega), sm250, rd_s⟩)
  · refine j_aload_n 0 dX11_item_8 rfl ?_
    refine j_getv (nI (nT S)) dX11_item_9 fX11_123 (shM hM sgM_0) rfl ((mr_T hS).trans (Sok.T ok).1) ?_
    refine j_bipush 16 dX11_item_12 bp_16 ?_
    refine j_icmp_eqN (tgt := 52) (nT S) 16 dX11_item_14 rfl (by omega) (by omega) (fun c251 => ?_) (fun c251 => ?_)
    · refine j_aload_n 0 dX11_item_52 rfl ?_
      refine j_aload_n 0 dX11_item_53 rfl ?_
      refine j_getv (nI p) dX11_item_54 fX11_193 (shM hM sgM_0) rfl hp ?_
      refine j_callV (kc := 0) (ks := 0) (a := 0) (b := 0) (d' := d) (As := [.int (nI p)]) dX11_item_57 kX11_209 rfl (shM hM sgM_0) (by omega) rfl rfl rfl (Nat.le_of_ble_eq_true rfl) (Nat.le_of_ble_eq_true rfl) (T_X11_wrong hM (nI p)) (kk_p ?_)
      have sm252 : Fm PIt M (jk_wI M 0 34 (nI p)) := Fm.w Fm.rf (by unfold PIt PH PQr; omega)
      refine j_zret dX11_item_60 rfl rfl ?_
      exact hQ _ _ (Or.inr ⟨rfl, p, itS_1 (wd_of (w := 1) (by decide) (by assumption)) (fun z => by have q := z.1 rfl; omega), sm252, rd_s⟩)
    · refine j_aload_n 0 dX11_item_17 rfl ?_
      refine j_iconst 5 dX11_item_18 ic_5 ?_
      refine j_callV (kc := 0) (ks := 0) (a := 0) (b := 0) (d' := d) (As := [.int 5]) dX11_item_19 kX11_212 rfl (shM hM sgM_0) (by omega) rfl rfl rfl (Nat.le_of_ble_eq_true rfl) (Nat.le_of_ble_eq_true rfl) (T_X11_stands hM rx hp (by omega) (w := 5) (by decide)) (kk_p ?_)
      refine j_if_eqB (p := (mt n t p 5 = jk_sL.getD 5 0)) (tgt := 34) dX11_item_22 rfl (fun c253 => ?_) (fun c253 => ?_)
      · refine j_aload_n 0 dX11_item_34 rfl ?_
        refine j_bipush 6 dX11_item_35 bp_6 ?_
        refine j_callV (kc := 0) (ks := 0) (a := 0) (b := 0) (d' := d) (As := [.int 6]) dX11_item_37 kX11_212 rfl (shM hM sgM_0) (by omega) rfl rfl rfl (Nat.le_of_ble_eq_true rfl) (Nat.le_of_ble_eq_true rfl) (T_X11_stands hM rx hp (by omega) (w := 6) (by decide)) (kk_p ?_)
        refine j_if_eqB (p := (mt n t p 6 = jk_sL.getD 6 0)) (tgt := 61) dX11_item_40 rfl (fun c254 => ?_) (fun c254 => ?_)
        · have hroom : ∀ w, wdN n t p 10 = some w → roomS S w := fun w hw => ⟨(fun e => by first | omega | exact absurd (show mt n t p 1 = jk_sL.getD 1 0 by have q := (wd_lt 10 hw).2; rw [e] at q; exact q) (by assumption)), (fun e => by first | omega | exact absurd (show mt n t p 5 = jk_sL.getD 5 0 by have q := (wd_lt 10 hw).2; rw [e] at q; exact q) (by assumption)), (fun e => by first | omega | exact absurd (show mt n t p 6 = jk_sL.getD 6 0 by have q := (wd_lt 10 hw).2; rw [e] at q; exact q) (by assumption))⟩
          refine j_aload_n 0 dX11_item_61 rfl ?_
          refine j_callV (kc := 0) (ks := 0) (a := 0) (b := 0) (d' := d) (As := []) dX11_item_62 kX11_215 rfl (shM hM sgM_0) (by omega) rfl rfl rfl (Nat.le_of_ble_eq_true rfl) (Nat.le_of_ble_eq_true rfl) (T_wordS hM rx hp (by omega) v hv) (kk_p ?_)
          have sm255 : Fm PIt M (jk_wI M 0 31 (nI (p + jk_sL.getD v 0 + 1))) := Fm.w Fm.rf (by unfold PIt PH PQr; omega)
          refine j_istore_n (L' := [(1, .int (nI v)), (0, .ref 0)]) dX11_item_65 (by decide) rfl ?_
          have hr3 := hroom v hwd
          have hl9 := sL9 v hv10
          obtain ⟨-, hnb3, hnb1, -⟩ := nb_T v hv10
          have hmW : mv (jk_wI M 0 31 (nI (p + jk_sL.getD v 0 + 1))).2.1 = S := Fm.mv (P := PQr) (Fm.w Fm.rf (by unfold PQr; omega)) hS (fun q k h => by unfold PH at h; unfold PQr; omega)
          refine j_iload_n 0 dX11_item_66 rfl ?_
          refine j_iconst (-1) dX11_item_67 ic_n1 ?_
          refine j_icmp_ne (tgt := 73) dX11_item_68 rfl (fun c256 => ?_) (fun c256 => ?_)
          · refine j_iconst 0 dX11_item_73 ic_0 ?_
            refine j_istore_n (L' := [(2, .int 0), (1, .int (nI v)), (0, .ref 0)]) dX11_item_74 (by decide) rfl ?_
            have lp259 : ∀ (k257 : Nat) (i : Nat) (q : Nat) (vv : Nat → Int32) (M1 : jk_M), nbN v - i < k257 → (i ≤ nbN v) → (nuL S n t v (p + jk_sL.getD v 0) i = .inr (q, vv)) → (Fm PIt M M1) → (mv M1.2.1 = S) → (∀ k, k < i → M1.2.1 21 k = vv k) → ((i = 0 ∧ M1.2.1 0 31 = nI (q + 1) ∧ q < n ∧ t q = 32) ∨ (0 < i ∧ M1.2.1 0 31 = nI q)) → (q ≤ n) → J Fr_X11_item (d + 3) 0 0 75 [(0, .ref 0), (1, .int (nI v)), (2, .int (nI i))] [] M1 Q := by
              intro k257
              induction k257 with
              | zero => intro i q vv M1 hk; exact absurd hk (Nat.not_lt_zero _)
              | succ k257 ih258 =>
                intro i q vv M1 hk257 hi hnu hs1 hm1 htl hpl hqn
                refine j_iload_n 2 dX11_item_75 rfl ?_
                refine j_aload_n 0 dX11_item_76 rfl ?_
                refine j_getr (q := 20) dX11_item_77 fX11_84 (shM (Fm.M hs1 hM) sgM_0) rfl (rfM (Fm.M hs1 hM) rfM_0_28) ?_
                refine j_iload_n 1 dX11_item_80 rfl ?_
                refine j_ialdN v dX11_item_81 (shM (Fm.M hs1 hM) sgM_20) (by omega) (by omega) ?_
                refine j_topi (nI (nbN v)) (((RX.it rx hs1).2.2.2.2.2.2 _ (by omega)).trans (nb_T v hv10).1) ?_
                refine j_icmp_geN (tgt := 184) i (nbN v) dX11_item_82 rfl (by omega) (by omega) (fun c260 => ?_) (fun c260 => ?_)
                · have ei : i = nbN v := by omega
                  have hn3 := nu_end hv10 (by rw [← ei]; exact hnu)
                  have hmay := (nuL_may 3 _ _ hn3).1
                  have h31b : M1.2.1 0 31 = nI q := (hpl.resolve_left (fun z => by omega)).2
                  refine j_iload_n 1 dX11_item_184 rfl ?_
                  by_cases c262 : (nI v) = 0
                  · refine j_tableIn (tgt := 240) dX11_item_185 (by rw [c262]; decide) (by rw [c262]; decide) (off := 55) (by rw [c262]; decide) rfl ?_
                    have hvk : v = 0 := (nI_eq (by omega) (by omega)).mp (c262 : nI v = nI 0)
                    have hnbk : nbN v = 1 := by rw [hvk]; rfl
                    refine j_aload_n 0 dX11_item_240 rfl ?_
                    refine j_aload_n 0 dX11_item_241 rfl ?_
                    refine j_getr (q := 21) dX11_item_242 fX11_87 (shM (Fm.M hs1 hM) sgM_0) rfl (rfM (Fm.M hs1 hM) rfM_0_29) ?_
                    refine j_iconst 0 dX11_item_245 ic_0 ?_
                    refine j_ialdN 0 dX11_item_246 (shM (Fm.M hs1 hM) sgM_21) (by omega) (by omega) ?_
                    refine j_topi (vv 0) (htl _ (by omega)) ?_
                    refine j_put dX11_item_247 fX11_7 (shM (Fm.M hs1 hM) sgM_0) rfl ?_
                    have sm263 : Fm PIt M (jk_wI M1 0 3 (vv 0)) := Fm.w hs1 (by unfold PIt PH PQr; omega)
                    refine j_goto (tgt := 409) dX11_item_250 rfl ?_
                    refine j_iconst 1 dX11_item_409 ic_1 ?_
                    refine j_zret dX11_item_410 rfl rfl ?_
                    have hmv : mv (jk_wI M1 0 3 (vv 0)).2.1 = apS S v (vv 0) (vv 1) (vv 2) := by
                      rw [hvk]
                      exact mv_sc (a := 0) hm1 (by decide) (by decide) (by decide) (by decide)
                    have h31e : (jk_wI M1 0 3 (vv 0)).2.1 0 31 = nI q := (rd_p (by omega)).trans h31b
                    exact hQ _ _ (Or.inl ⟨rfl, _, q, itS_3 hwd hr3 hn3, sm263, hmv, h31e⟩)
                  by_cases c264 : (nI v) = 1
                  · refine j_tableIn (tgt := 253) dX11_item_185 (by rw [c264]; decide) (by rw [c264]; decide) (off := 68) (by rw [c264]; decide) rfl ?_
                    have hvk : v = 1 := (nI_eq (by omega) (by omega)).mp (c264 : nI v = nI 1)
                    have hnbk : nbN v = 3 := by rw [hvk]; rfl
                    obtain ⟨hr1, hr5, hr6⟩ := hr3
                    have hlt := hr1 hvk
                    have hr3 : roomS S v := ⟨hr1, hr5, hr6⟩
                    refine j_aload_n 0 dX11_item_253 rfl ?_
                    refine j_aload_n 0 dX11_item_254 rfl ?_
                    refine j_getr (q := 21) dX11_item_255 fX11_87 (shM (Fm.M hs1 hM) sgM_0) rfl (rfM (Fm.M hs1 hM) rfM_0_29) ?_
                    refine j_iconst 0 dX11_item_258 ic_0 ?_
                    refine j_ialdN 0 dX11_item_259 (shM (Fm.M hs1 hM) sgM_21) (by omega) (by omega) ?_
                    refine j_topi (vv 0) (htl _ (by omega)) ?_
                    refine j_aload_n 0 dX11_item_260 rfl ?_
                    refine j_getr (q := 21) dX11_item_261 fX11_87 (shM (Fm.M hs1 hM) sgM_0) rfl (rfM (Fm.M hs1 hM) rfM_0_29) ?_
                    refine j_iconst 1 dX11_item_264 ic_1 ?_
                    refine j_ialdN 1 dX11_item_265 (shM (Fm.M hs1 hM) sgM_21) (by omega) (by omega) ?_
                    refine j_topi (vv 1) (htl _ (by omega)) ?_
                    refine j_aload_n 0 dX11_item_266 rfl ?_
                    refine j_getr (q := 21) dX11_item_267 fX11_87 (shM (Fm.M hs1 hM) sgM_0) rfl (rfM (Fm.M hs1 hM) rfM_0_29) ?_
                    refine j_iconst 2 dX11_item_270 ic_2 ?_
                    refine j_ialdN 2 dX11_item_271 (shM (Fm.M hs1 hM) sgM_21) (by omega) (by omega) ?_
                    refine j_topi (vv 2) (htl _ (by omega)) ?_
                    refine j_callV (kc := 0) (ks := 0) (a := 0) (b := 0) (d' := d) (As := [.int (vv 0), .int (vv 1), .int (vv 2)]) dX11_item_272 kX11_157 rfl (shM (Fm.M hs1 hM) sgM_0) (by omega) rfl rfl rfl (Nat.le_of_ble_eq_true rfl) (Nat.le_of_ble_eq_true rfl) (T_X11_addsThing (Fm.M hs1 hM) hm1 ok (vv 0) (vv 1) (vv 2) hlt) (kk_e (fun M265 hM266 => ?_))
                    obtain ⟨h0A, hvA⟩ := hM266
                    have smA : Fm PIt M M265 := Fm.tr hs1 (Fm.mo h0A PA_I)
                    refine j_pop dX11_item_275 rfl ?_
                    refine j_goto (tgt := 409) dX11_item_276 rfl ?_
                    refine j_iconst 1 dX11_item_409 ic_1 ?_
                    refine j_zret dX11_item_410 rfl rfl ?_
                    have hmv : mv M265.2.1 = apS S v (vv 0) (vv 1) (vv 2) := by
                      rw [hvk]
                      exact hvA
                    have h31e : M265.2.1 0 31 = nI q := (Fm.rd h0A (by unfold PA; omega)).trans h31b
                    exact hQ _ _ (Or.inl ⟨rfl, _, q, itS_3 hwd hr3 hn3, smA, hmv, h31e⟩)
                  by_cases c267 : (nI v) = 2
                  · refine j_tableIn (tgt := 279) dX11_item_185 (by rw [c267]; decide) (by rw [c267]; decide) (off := 94) (by rw [c267]; decide) rfl ?_
                    have hvk : v = 2 := (nI_eq (by omega) (by omega)).mp (c267 : nI v = nI 2)
                    have hnbk : nbN v = 2 := by rw [hvk]; rfl
                    have hm0 : mayS S 4 (vv 0) := by have q := hmay 0 (by omega) (by rw [hvk]; decide); rw [hvk] at q; exact q
                    rw [may_4] at hm0
                    obtain ⟨j0, hj0, ej0⟩ := in2 hm0
                    refine j_aload_n 0 dX11_item_279 rfl ?_
                    refine j_getr (q := 12) dX11_item_280 fX11_59 (shM (Fm.M hs1 hM) sgM_0) rfl (rfM (Fm.M hs1 hM) rfM_0_20) ?_
                    refine j_aload_n 0 dX11_item_283 rfl ?_
                    refine j_getr (q := 21) dX11_item_284 fX11_87 (shM (Fm.M hs1 hM) sgM_0) rfl (rfM (Fm.M hs1 hM) rfM_0_29) ?_
                    refine j_iconst 0 dX11_item_287 ic_0 ?_
                    refine j_ialdN 0 dX11_item_288 (shM (Fm.M hs1 hM) sgM_21) (by omega) (by omega) ?_
                    refine j_topi (nI j0) ((htl 0 (by omega)).trans ej0) ?_
                    refine j_aload_n 0 dX11_item_289 rfl ?_
                    refine j_getr (q := 21) dX11_item_290 fX11_87 (shM (Fm.M hs1 hM) sgM_0) rfl (rfM (Fm.M hs1 hM) rfM_0_29) ?_
                    refine j_iconst 1 dX11_item_293 ic_1 ?_
                    refine j_ialdN 1 dX11_item_294 (shM (Fm.M hs1 hM) sgM_21) (by omega) (by omega) ?_
                    refine j_topi (vv 1) (htl _ (by omega)) ?_
                    refine j_iastN j0 dX11_item_295 (shM (Fm.M hs1 hM) sgM_12) (by omega) (by omega) ?_
                    have sm268 : Fm PIt M (jk_wI M1 12 j0 (vv 1)) := Fm.w hs1 (by unfold PIt PH PQr; omega)
                    refine j_goto (tgt := 409) dX11_item_296 rfl ?_
                    refine j_iconst 1 dX11_item_409 ic_1 ?_
                    refine j_zret dX11_item_410 rfl rfl ?_
                    have hmv : mv (jk_wI M1 12 j0 (vv 1)).2.1 = apS S v (vv 0) (vv 1) (vv 2) := by
                      rw [hvk]
                      refine (show mv (jk_wI M1 12 j0 (vv 1)).2.1 = if vv 0 = 0 then upS S 5 0 (vv 1) else upS S 6 0 (vv 1) from ?_)
                      rcases (show j0 = 0 ∨ j0 = 1 by omega) with e | e
                      · subst e; rw [if_pos (show vv 0 = 0 from ej0)]; exact mv_sc (a := 5) hm1 (by decide) (by decide) (by decide) (by decide)
                      · subst e; rw [if_neg (by rw [ej0]; decide)]; exact mv_sc (a := 6) hm1 (by decide) (by decide) (by decide) (by decide)
                    have h31e : (jk_wI M1 12 j0 (vv 1)).2.1 0 31 = nI q := (rd_p (by omega)).trans h31b
                    exact hQ _ _ (Or.inl ⟨rfl, _, q, itS_3 hwd hr3 hn3, sm268, hmv, h31e⟩)
                  by_cases c269 : (nI v) = 3
                  · refine j_tableIn (tgt := 299) dX11_item_185 (by rw [c269]; decide) (by rw [c269]; decide) (off := 114) (by rw [c269]; decide) rfl ?_
                    have hvk : v = 3 := (nI_eq (by omega) (by omega)).mp (c269 : nI v = nI 3)
                    have hnbk : nbN v = 1 := by rw [hvk]; rfl
                    refine j_aload_n 0 dX11_item_299 rfl ?_
                    refine j_iconst 0 dX11_item_300 ic_0 ?_
                    refine j_aload_n 0 dX11_item_301 rfl ?_
                    refine j_getr (q := 21) dX11_item_302 fX11_87 (shM (Fm.M hs1 hM) sgM_0) rfl (rfM (Fm.M hs1 hM) rfM_0_29) ?_
                    refine j_iconst 0 dX11_item_305 ic_0 ?_
                    refine j_ialdN 0 dX11_item_306 (shM (Fm.M hs1 hM) sgM_21) (by omega) (by omega) ?_
                    refine j_topi (vv 0) (htl _ (by omega)) ?_
                    refine j_callV (kc := 0) (ks := 0) (a := 0) (b := 0) (d' := d) (As := [.int 0, .int (vv 0)]) dX11_item_307 kX11_177 rfl (shM (Fm.M hs1 hM) sgM_0) (by omega) rfl rfl rfl (Nat.le_of_ble_eq_true rfl) (Nat.le_of_ble_eq_true rfl) (T_tells0 (Fm.M hs1 hM) (vv 0)) (kk_pv ?_)
                    have sm270 : Fm PIt M (jk_wI M1 0 4 (vv 0)) := Fm.w hs1 (by unfold PIt PH PQr; omega)
                    refine j_goto (tgt := 409) dX11_item_310 rfl ?_
                    refine j_iconst 1 dX11_item_409 ic_1 ?_
                    refine j_zret dX11_item_410 rfl rfl ?_
                    have hmv : mv (jk_wI M1 0 4 (vv 0)).2.1 = apS S v (vv 0) (vv 1) (vv 2) := by
                      rw [hvk]
                      exact mv_sc (a := 1) hm1 (by decide) (by decide) (by decide) (by decide)
                    have h31e : (jk_wI M1 0 4 (vv 0)).2.1 0 31 = nI q := (rd_p (by omega)).trans h31b
                    exact hQ _ _ (Or.inl ⟨rfl, _, q, itS_3 hwd hr3 hn3, sm270, hmv, h31e⟩)
                  by_cases c271 : (nI v) = 4
                  · refine j_tableIn (tgt := 313) dX11_item_185 (by rw [c271]; decide) (by rw [c271]; decide) (off := 128) (by rw [c271]; decide) rfl ?_
                    have hvk : v = 4 := (nI_eq (by omega) (by omega)).mp (c271 : nI v = nI 4)
                    have hnbk : nbN v = 1 := by rw [hvk]; rfl
                    refine j_aload_n 0 dX11_item_313 rfl ?_
                    refine j_iconst 1 dX11_item_314 ic_1 ?_
                    refine j_aload_n 0 dX11_item_315 rfl ?_
                    refine j_getr (q := 21) dX11_item_316 fX11_87 (shM (Fm.M hs1 hM) sgM_0) rfl (rfM (Fm.M hs1 hM) rfM_0_29) ?_
                    refine j_iconst 0 dX11_item_319 ic_0 ?_
                    refine j_ialdN 0 dX11_item_320 (shM (Fm.M hs1 hM) sgM_21) (by omega) (by omega) ?_
                    refine j_topi (vv 0) (htl _ (by omega)) ?_
                    refine j_callV (kc := 0) (ks := 0) (a := 0) (b := 0) (d' := d) (As := [.int 1, .int (vv 0)]) dX11_item_321 kX11_177 rfl (shM (Fm.M hs1 hM) sgM_0) (by omega) rfl rfl rfl (Nat.le_of_ble_eq_true rfl) (Nat.le_of_ble_eq_true rfl) (T_tells1 (Fm.M hs1 hM) (vv 0)) (kk_pv ?_)
                    have sm272 : Fm PIt M (jk_wI M1 0 5 (vv 0)) := Fm.w hs1 (by unfold PIt PH PQr; omega)
                    refine j_goto (tgt := 409) dX11_item_324 rfl ?_
                    refine j_iconst 1 dX11_item_409 ic_1 ?_
                    refine j_zret dX11_item_410 rfl rfl ?_
                    have hmv : mv (jk_wI M1 0 5 (vv 0)).2.1 = apS S v (vv 0) (vv 1) (vv 2) := by
                      rw [hvk]
                      exact mv_sc (a := 2) hm1 (by decide) (by decide) (by decide) (by decide)
                    have h31e : (jk_wI M1 0 5 (vv 0)).2.1 0 31 = nI q := (rd_p (by omega)).trans h31b
                    exact hQ _ _ (Or.inl ⟨rfl, _, q, itS_3 hwd hr3 hn3, sm272, hmv, h31e⟩)
                  by_cases c273 : (nI v) = 5
                  · refine j_tableIn (tgt := 327) dX11_item_185 (by rw [c273]; decide) (by rw [c273]; decide) (off := 142) (by rw [c273]; decide) rfl ?_
                    have hvk : v = 5 := (nI_eq (by omega) (by omega)).mp (c273 : nI v = nI 5)
                    have hnbk : nbN v = 2 := by rw [hvk]; rfl
                    obtain ⟨hr1, hr5, hr6⟩ := hr3
                    have hlt := hr5 hvk
                    have hr3 : roomS S v := ⟨hr1, hr5, hr6⟩
                    refine j_aload_n 0 dX11_item_327 rfl ?_
                    refine j_aload_n 0 dX11_item_328 rfl ?_
                    refine j_getr (q := 21) dX11_item_329 fX11_87 (shM (Fm.M hs1 hM) sgM_0) rfl (rfM (Fm.M hs1 hM) rfM_0_29) ?_
                    refine j_iconst 0 dX11_item_332 ic_0 ?_
                    refine j_ialdN 0 dX11_item_333 (shM (Fm.M hs1 hM) sgM_21) (by omega) (by omega) ?_
                    refine j_topi (vv 0) (htl _ (by omega)) ?_
                    refine j_aload_n 0 dX11_item_334 rfl ?_
                    refine j_getr (q := 21) dX11_item_335 fX11_87 (shM (Fm.M hs1 hM) sgM_0) rfl (rfM (Fm.M hs1 hM) rfM_0_29) ?_
                    refine j_iconst 1 dX11_item_338 ic_1 ?_
                    refine j_ialdN 1 dX11_item_339 (shM (Fm.M hs1 hM) sgM_21) (by omega) (by omega) ?_
                    refine j_topi (vv 1) (htl _ (by omega)) ?_
                    refine j_callV (kc := 0) (ks := 0) (a := 0) (b := 0) (d' := d) (As := [.int (vv 0), .int (vv 1)]) dX11_item_340 kX11_161 rfl (shM (Fm.M hs1 hM) sgM_0) (by omega) rfl rfl rfl (Nat.le_of_ble_eq_true rfl) (Nat.le_of_ble_eq_true rfl) (T_X11_addsNeighbour (Fm.M hs1 hM) hm1 ok (vv 0) (vv 1) hlt) (kk_e (fun M274 hM275 => ?_))
                    obtain ⟨h0A, hvA⟩ := hM275
                    have smA : Fm PIt M M274 := Fm.tr hs1 (Fm.mo h0A PA_I)
                    refine j_pop dX11_item_343 rfl ?_
                    refine j_goto (tgt := 409) dX11_item_344 rfl ?_
                    refine j_iconst 1 dX11_item_409 ic_1 ?_
                    refine j_zret dX11_item_410 rfl rfl ?_
                    have hmv : mv M274.2.1 = apS S v (vv 0) (vv 1) (vv 2) := by
                      rw [hvk]
                      exact hvA
                    have h31e : M274.2.1 0 31 = nI q := (Fm.rd h0A (by unfold PA; omega)).trans h31b
                    exact hQ _ _ (Or.inl ⟨rfl, _, q, itS_3 hwd hr3 hn3, smA, hmv, h31e⟩)
                  by_cases c276 : (nI v) = 6
                  · refine j_tableIn (tgt := 347) dX11_item_185 (by rw [c276]; decide) (by rw [c276]; decide) (off := 162) (by rw [c276]; decide) rfl ?_
                    have hvk : v = 6 := (nI_eq (by omega) (by omega)).mp (c276 : nI v = nI 6)
                    have hnbk : nbN v = 3 := by rw [hvk]; rfl
                    obtain ⟨hr1, hr5, hr6⟩ := hr3
                    have hlt := hr6 hvk
                    have hr3 : roomS S v := ⟨hr1, hr5, hr6⟩
                    refine j_aload_n 0 dX11_item_347 rfl ?_
                    refine j_aload_n 0 dX11_item_348 rfl ?_
                    refine j_getr (q := 21) dX11_item_349 fX11_87 (shM (Fm.M hs1 hM) sgM_0) rfl (rfM (Fm.M hs1 hM) rfM_0_29) ?_
                    refine j_iconst 0 dX11_item_352 ic_0 ?_
                    refine j_ialdN 0 dX11_item_353 (shM (Fm.M hs1 hM) sgM_21) (by omega) (by omega) ?_
                    refine j_topi (vv 0) (htl _ (by omega)) ?_
                    refine j_aload_n 0 dX11_item_354 rfl ?_
                    refine j_getr (q := 21) dX11_item_355 fX11_87 (shM (Fm.M hs1 hM) sgM_0) rfl (rfM (Fm.M hs1 hM) rfM_0_29) ?_
                    refine j_iconst 1 dX11_item_358 ic_1 ?_
                    refine j_ialdN 1 dX11_item_359 (shM (Fm.M hs1 hM) sgM_21) (by omega) (by omega) ?_
                    refine j_topi (vv 1) (htl _ (by omega)) ?_
                    refine j_aload_n 0 dX11_item_360 rfl ?_
                    refine j_getr (q := 21) dX11_item_361 fX11_87 (shM (Fm.M hs1 hM) sgM_0) rfl (rfM (Fm.M hs1 hM) rfM_0_29) ?_
                    refine j_iconst 2 dX11_item_364 ic_2 ?_
                    refine j_ialdN 2 dX11_item_365 (shM (Fm.M hs1 hM) sgM_21) (by omega) (by omega) ?_
                    refine j_topi (vv 2) (htl _ (by omega)) ?_
                    refine j_callV (kc := 0) (ks := 0) (a := 0) (b := 0) (d' := d) (As := [.int (vv 0), .int (vv 1), .int (vv 2)]) dX11_item_366 kX11_164 rfl (shM (Fm.M hs1 hM) sgM_0) (by omega) rfl rfl rfl (Nat.le_of_ble_eq_true rfl) (Nat.le_of_ble_eq_true rfl) (T_X11_addsDevice (Fm.M hs1 hM) hm1 ok (vv 0) (vv 1) (vv 2) hlt) (kk_e (fun M277 hM278 => ?_))
                    obtain ⟨h0A, hvA⟩ := hM278
                    have smA : Fm PIt M M277 := Fm.tr hs1 (Fm.mo h0A PA_I)
                    refine j_pop dX11_item_369 rfl ?_
                    refine j_goto (tgt := 409) dX11_item_370 rfl ?_
                    refine j_iconst 1 dX11_item_409 ic_1 ?_
                    refine j_zret dX11_item_410 rfl rfl ?_
                    have hmv : mv M277.2.1 = apS S v (vv 0) (vv 1) (vv 2) := by
                      rw [hvk]
                      exact hvA
                    have h31e : M277.2.1 0 31 = nI q := (Fm.rd h0A (by unfold PA; omega)).trans h31b
                    exact hQ _ _ (Or.inl ⟨rfl, _, q, itS_3 hwd hr3 hn3, smA, hmv, h31e⟩)
                  by_cases c279 : (nI v) = 7
                  · refine j_tableIn (tgt := 387) dX11_item_185 (by rw [c279]; decide) (by rw [c279]; decide) (off := 202) (by rw [c279]; decide) rfl ?_
                    have hvk : v = 7 := (nI_eq (by omega) (by omega)).mp (c279 : nI v = nI 7)
                    have hnbk : nbN v = 1 := by rw [hvk]; rfl
                    have hm0 : mayS S 10 (vv 0) := by have q := hmay 0 (by omega) (by rw [hvk]; decide); rw [hvk] at q; exact q
                    obtain ⟨j0, hj0, ej0⟩ := may10 ok hm0
                    refine j_aload_n 0 dX11_item_387 rfl ?_
                    refine j_getr (q := 5) dX11_item_388 fX11_38 (shM (Fm.M hs1 hM) sgM_0) rfl (rfM (Fm.M hs1 hM) rfM_0_13) ?_
                    refine j_aload_n 0 dX11_item_391 rfl ?_
                    refine j_getr (q := 21) dX11_item_392 fX11_87 (shM (Fm.M hs1 hM) sgM_0) rfl (rfM (Fm.M hs1 hM) rfM_0_29) ?_
                    refine j_iconst 0 dX11_item_395 ic_0 ?_
                    refine j_ialdN 0 dX11_item_396 (shM (Fm.M hs1 hM) sgM_21) (by omega) (by omega) ?_
                    refine j_topi (nI j0) ((htl 0 (by omega)).trans ej0) ?_
                    refine j_iload_n 1 dX11_item_397 rfl ?_
                    refine j_bipush 8 dX11_item_398 bp_8 ?_
                    refine j_icmp_neN (tgt := 407) v 8 dX11_item_400 rfl (by omega) (by omega) (fun c280 => ?_) (fun c280 => ?_)
                    · refine j_iconst 0 dX11_item_407 ic_0 ?_
                      refine j_iastN j0 dX11_item_408 (shM (Fm.M hs1 hM) sgM_5) (by omega) (by omega) ?_
                      have sm281 : Fm PIt M (jk_wI M1 5 j0 0) := Fm.w hs1 (by unfold PIt PH PQr; omega)
                      refine j_iconst 1 dX11_item_409 ic_1 ?_
                      refine j_zret dX11_item_410 rfl rfl ?_
                      have hmv : mv (jk_wI M1 5 j0 0).2.1 = apS S v (vv 0) (vv 1) (vv 2) := by
                        rw [hvk]
                        show mv (jk_wI M1 5 j0 0).2.1 = upS S 13 (vv 0).toNatClampNeg 0
                        rw [ej0, nI_clamp (by omega)]; exact mv_ar (a := 13) hm1 (by omega)
                      have h31e : (jk_wI M1 5 j0 0).2.1 0 31 = nI q := (rd_p (by omega)).trans h31b
                      exact hQ _ _ (Or.inl ⟨rfl, _, q, itS_3 hwd hr3 hn3, sm281, hmv, h31e⟩)
                    · exact absurd (hvk.symm.trans c280) (by decide)
                  by_cases c282 : (nI v) = 8
                  · refine j_tableIn (tgt := 387) dX11_item_185 (by rw [c282]; decide) (by rw [c282]; decide) (off := 202) (by rw [c282]; decide) rfl ?_
                    have hvk : v = 8 := (nI_eq (by omega) (by omega)).mp (c282 : nI v = nI 8)
                    have hnbk : nbN v = 1 := by rw [hvk]; rfl
                    have hm0 : mayS S 10 (vv 0) := by have q := hmay 0 (by omega) (by rw [hvk]; decide); rw [hvk] at q; exact q
                    obtain ⟨j0, hj0, ej0⟩ := may10 ok hm0
                    refine j_aload_n 0 dX11_item_387 rfl ?_
                    refine j_getr (q := 5) dX11_item_388 fX11_38 (shM (Fm.M hs1 hM) sgM_0) rfl (rfM (Fm.M hs1 hM) rfM_0_13) ?_
                    refine j_aload_n 0 dX11_item_391 rfl ?_
                    refine j_getr (q := 21) dX11_item_392 fX11_87 (shM (Fm.M hs1 hM) sgM_0) rfl (rfM (Fm.M hs1 hM) rfM_0_29) ?_
                    refine j_iconst 0 dX11_item_395 ic_0 ?_
                    refine j_ialdN 0 dX11_item_396 (shM (Fm.M hs1 hM) sgM_21) (by omega) (by omega) ?_
                    refine j_topi (nI j0) ((htl 0 (by omega)).trans ej0) ?_
                    refine j_iload_n 1 dX11_item_397 rfl ?_
                    refine j_bipush 8 dX11_item_398 bp_8 ?_
                    refine j_icmp_neN (tgt := 407) v 8 dX11_item_400 rfl (by omega) (by omega) (fun c283 => ?_) (fun c283 => ?_)
                    · exact absurd hvk c283
                    · refine j_iconst 1 dX11_item_403 ic_1 ?_
                      refine j_goto (tgt := 408) dX11_item_404 rfl ?_
                      refine j_iastN j0 dX11_item_408 (shM (Fm.M hs1 hM) sgM_5) (by omega) (by omega) ?_
                      have sm284 : Fm PIt M (jk_wI M1 5 j0 1) := Fm.w hs1 (by unfold PIt PH PQr; omega)
                      refine j_iconst 1 dX11_item_409 ic_1 ?_
                      refine j_zret dX11_item_410 rfl rfl ?_
                      have hmv : mv (jk_wI M1 5 j0 1).2.1 = apS S v (vv 0) (vv 1) (vv 2) := by
                        rw [hvk]
                        show mv (jk_wI M1 5 j0 1).2.1 = upS S 13 (vv 0).toNatClampNeg 1
                        rw [ej0, nI_clamp (by omega)]; exact mv_ar (a := 13) hm1 (by omega)
                      have h31e : (jk_wI M1 5 j0 1).2.1 0 31 = nI q := (rd_p (by omega)).trans h31b
                      exact hQ _ _ (Or.inl ⟨rfl, _, q, itS_3 hwd hr3 hn3, sm284, hmv, h31e⟩)
                  by_cases c285 : (nI v) = 9
                  · refine j_tableIn (tgt := 373) dX11_item_185 (by rw [c285]; decide) (by rw [c285]; decide) (off := 188) (by rw [c285]; decide) rfl ?_
                    have hvk : v = 9 := (nI_eq (by omega) (by omega)).mp (c285 : nI v = nI 9)
                    have hnbk : nbN v = 1 := by rw [hvk]; rfl
                    refine j_aload_n 0 dX11_item_373 rfl ?_
                    refine j_iconst 2 dX11_item_374 ic_2 ?_
                    refine j_aload_n 0 dX11_item_375 rfl ?_
                    refine j_getr (q := 21) dX11_item_376 fX11_87 (shM (Fm.M hs1 hM) sgM_0) rfl (rfM (Fm.M hs1 hM) rfM_0_29) ?_
                    refine j_iconst 0 dX11_item_379 ic_0 ?_
                    refine j_ialdN 0 dX11_item_380 (shM (Fm.M hs1 hM) sgM_21) (by omega) (by omega) ?_
                    refine j_topi (vv 0) (htl _ (by omega)) ?_
                    refine j_callV (kc := 0) (ks := 0) (a := 0) (b := 0) (d' := d) (As := [.int 2, .int (vv 0)]) dX11_item_381 kX11_177 rfl (shM (Fm.M hs1 hM) sgM_0) (by omega) rfl rfl rfl (Nat.le_of_ble_eq_true rfl) (Nat.le_of_ble_eq_true rfl) (T_tells2 (Fm.M hs1 hM) (vv 0)) (kk_pv ?_)
                    have sm286 : Fm PIt M (jk_wI M1 0 6 (vv 0)) := Fm.w hs1 (by unfold PIt PH PQr; omega)
                    refine j_goto (tgt := 409) dX11_item_384 rfl ?_
                    refine j_iconst 1 dX11_item_409 ic_1 ?_
                    refine j_zret dX11_item_410 rfl rfl ?_
                    have hmv : mv (jk_wI M1 0 6 (vv 0)).2.1 = apS S v (vv 0) (vv 1) (vv 2) := by
                      rw [hvk]
                      exact mv_sc (a := 3) hm1 (by decide) (by decide) (by decide) (by decide)
                    have h31e : (jk_wI M1 0 6 (vv 0)).2.1 0 31 = nI q := (rd_p (by omega)).trans h31b
                    exact hQ _ _ (Or.inl ⟨rfl, _, q, itS_3 hwd hr3 hn3, sm286, hmv, h31e⟩)
                  have hv10b : v = 0 ∨ v = 1 ∨ v = 2 ∨ v = 3 ∨ v = 4 ∨ v = 5 ∨ v = 6 ∨ v = 7 ∨ v = 8 ∨ v = 9 := by omega
                  exfalso
                  rcases hv10b with rfl | rfl | rfl | rfl | rfl | rfl | rfl | rfl | rfl | rfl
                  · exact c262 rfl
                  · exact c264 rfl
                  · exact c267 rfl
                  · exact c269 rfl
                  · exact c271 rfl
                  · exact c273 rfl
                  · exact c276 rfl
                  · exact c279 rfl
                  · exact c282 rfl
                  · exact c285 rfl
                · refine j_iload_n 2 dX11_item_85 rfl ?_
                  refine j_if_leN (tgt := 139) i dX11_item_86 (by omega) rfl (fun c287 => ?_) (fun c287 => ?_)
                  · refine j_aload_n 0 dX11_item_139 rfl ?_
                    refine j_getv (nI (q + 1)) dX11_item_140 fX11_193 (shM (Fm.M hs1 hM) sgM_0) rfl (hpl.resolve_right (fun z => by omega)).2.1 ?_
                    refine j_istore_n (L' := [(3, .int (nI (q + 1))), (0, .ref 0), (1, .int (nI v)), (2, .int (nI i))]) dX11_item_143 (by decide) rfl ?_
                    have hmB : mv M1.2.1 = S := hm1
                    have hp1 : M1.2.1 0 31 = nI (q + 1) := (hpl.resolve_right (fun z => by omega)).2.1
                    have hsp : q < n ∧ t q = 32 := by first | exact ⟨by omega, by assumption⟩ | exact (hpl.resolve_right (fun z => by omega)).2.2
                    refine j_aload_n 1 dX11_item_144 rfl ?_
                    refine j_callV (kc := 0) (ks := 0) (a := 0) (b := 0) (d' := (d + 1)) (As := []) dX11_item_145 kX11_219 rfl (shM (Fm.M hs1 hM) sgM_0) (by omega) rfl rfl rfl (Nat.le_of_ble_eq_true rfl) (Nat.le_of_ble_eq_true rfl) (T_X11_reads (Fm.M hs1 hM) (RX.it rx hs1) hp1 (by omega)) (kk_o (fun M288 hM289 => ?_) (fun M290 hM291 => ?_))
                    · obtain ⟨hdg, h0R, h33, h31⟩ := hM289
                      have sm292 : Fm PIt M M288 := Fm.tr hs1 (Fm.mo h0R PQr_I)
                      have hmR : mv M288.2.1 = S := Fm.mv h0R hmB (fun q k h => by unfold PH at h; unfold PQr; omega)
                      refine j_if_ne (tgt := 153) dX11_item_148 rfl (fun c293 => ?_) (fun c293 => ?_)
                      · refine j_aload_n 1 dX11_item_153 rfl ?_
                        refine j_iload_n 2 dX11_item_154 rfl ?_
                        refine j_iload_n 3 dX11_item_155 rfl ?_
                        refine j_callV (kc := 0) (ks := 0) (a := 0) (b := 0) (d' := (d + 2)) (As := [.int (nI v), .int (nI i)]) dX11_item_156 kX11_222 rfl (shM (Fm.M sm292 hM) sgM_0) (by omega) rfl rfl rfl (Nat.le_of_ble_eq_true rfl) (Nat.le_of_ble_eq_true rfl) (T_X11_isSo (Fm.M sm292 hM) hmR ok (nuV_pos hdg) h33 (w := v) (i := i) hv10 (by omega)) (kk_p ?_)
                        refine j_if_neB (p := (mayS S (soN v i) (nuV n t (q + 1)).1)) (tgt := 168) dX11_item_159 rfl (fun c294 => ?_) (fun c294 => ?_)
                        · refine j_aload_n 1 dX11_item_168 rfl ?_
                          refine j_getr (q := 21) dX11_item_169 fX11_87 (shM (Fm.M sm292 hM) sgM_0) rfl (rfM (Fm.M sm292 hM) rfM_0_29) ?_
                          refine j_iload_n 3 dX11_item_172 rfl ?_
                          refine j_aload_n 1 dX11_item_173 rfl ?_
                          refine j_getv (nuV n t (q + 1)).1 dX11_item_174 fX11_202 (shM (Fm.M sm292 hM) sgM_0) rfl h33 ?_
                          refine j_iastN i dX11_item_177 (shM (Fm.M sm292 hM) sgM_21) (by omega) (by omega) ?_
                          have sm295 : Fm PIt M (jk_wI M288 21 i (nuV n t (q + 1)).1) := Fm.w sm292 (by unfold PIt PH PQr; omega)
                          refine j_iinc 3 (nI (i + 1)) (L' := [(2, .int (nI (i + 1))), (3, .int (nI (q + 1))), (0, .ref 0), (1, .int (nI v))]) dX11_item_178 rfl (inc1 i) (by decide) rfl ?_
                          refine j_goto (tgt := 75) dX11_item_181 rfl ?_
                          exact j_sub (jk_pick [2, 3, 0] rfl) (ih258 (i + 1) ((nuV n t (q + 1)).2) (va_up vv i (nuV n t (q + 1)).1) (jk_wI M288 21 i (nuV n t (q + 1)).1) (by omega) (by omega) (nuL_y hnu (so_n hv10 (by omega)) (nuS_3 hsp hdg (by assumption))) sm295 (Fm.mv (P := fun q k => q = 21) (Fm.w Fm.rf rfl) hmR (fun q k h z => by unfold PH at h; omega)) (fun k hk => by
          by_cases e : k = i
          · rw [e, rd_s, va_up_self]
          · rw [rd_k e, va_up_ne _ _ e, Fm.rd h0R (by unfold PQr; omega)]; first | exact htl k (by omega) | exact (rd_o (by decide)).trans (htl k (by omega))) (Or.inr ⟨by omega, (rd_o (by decide)).trans h31⟩) (nuS_in (nuS_3 hsp hdg (by assumption))).2.2.2)
                        · refine j_aload_n 1 dX11_item_162 rfl ?_
                          refine j_iload_n 0 dX11_item_163 rfl ?_
                          refine j_callV (kc := 0) (ks := 0) (a := 0) (b := 0) (d' := d) (As := [.int (nI (q + 1))]) dX11_item_164 kX11_209 rfl (shM (Fm.M sm292 hM) sgM_0) (by omega) rfl rfl rfl (Nat.le_of_ble_eq_true rfl) (Nat.le_of_ble_eq_true rfl) (T_X11_wrong (Fm.M sm292 hM) (nI (q + 1))) (kk_p ?_)
                          have sm296 : Fm PIt M (jk_wI M288 0 34 (nI (q + 1))) := Fm.w sm292 (by unfold PIt PH PQr; omega)
                          refine j_zret dX11_item_167 rfl rfl ?_
                          have hf : nuL S n t v (p + jk_sL.getD v 0) 3 = .inl (q + 1) := nu_stop (by omega) (nuL_n hnu (so_n hv10 (by omega)) (nuS_2 hsp hdg (by assumption)))
                          exact hQ _ _ (Or.inr ⟨rfl, q + 1, itS_2 hwd hr3 hf, sm296, rd_s⟩)
                      · exact absurd c293 (by decide)
                    · obtain ⟨hdg, h0R, h34⟩ := hM291
                      have sm297 : Fm PIt M M290 := Fm.tr hs1 (Fm.mo h0R PQr_I)
                      refine j_if_ne (tgt := 153) dX11_item_148 rfl (fun c298 => ?_) (fun c298 => ?_)
                      · exact absurd c298 (by decide)
                      · refine j_iconst 0 dX11_item_151 ic_0 ?_
                        refine j_zret dX11_item_152 rfl rfl ?_
                        have hf : nuL S n t v (p + jk_sL.getD v 0) 3 = .inl (q + 1) := nu_stop (by omega) (nuL_n hnu (so_n hv10 (by omega)) (nuS_1 hsp hdg))
                        exact hQ _ _ (Or.inr ⟨rfl, q + 1, itS_2 hwd hr3 hf, sm297, h34⟩)
                  · refine j_aload_n 0 dX11_item_89 rfl ?_
                    refine j_getv (nI q) dX11_item_90 fX11_193 (shM (Fm.M hs1 hM) sgM_0) rfl (hpl.resolve_left (fun z => by omega)).2 ?_
                    refine j_aload_n 0 dX11_item_93 rfl ?_
                    refine j_getv (nI n) dX11_item_94 fX11_196 (shM (Fm.M hs1 hM) sgM_0) rfl (RX.it rx hs1).2.2.2.1 ?_
                    refine j_icmp_geN (tgt := 120) q n dX11_item_97 rfl (by omega) (by omega) (fun c299 => ?_) (fun c299 => ?_)
                    · refine j_aload_n 0 dX11_item_120 rfl ?_
                      refine j_aload_n 0 dX11_item_121 rfl ?_
                      refine j_getv (nI q) dX11_item_122 fX11_193 (shM (Fm.M hs1 hM) sgM_0) rfl (hpl.resolve_left (fun z => by omega)).2 ?_
                      refine j_callV (kc := 0) (ks := 0) (a := 0) (b := 0) (d' := d) (As := [.int (nI q)]) dX11_item_125 kX11_209 rfl (shM (Fm.M hs1 hM) sgM_0) (by omega) rfl rfl rfl (Nat.le_of_ble_eq_true rfl) (Nat.le_of_ble_eq_true rfl) (T_X11_wrong (Fm.M hs1 hM) (nI q)) (kk_p ?_)
                      have sm300 : Fm PIt M (jk_wI M1 0 34 (nI q)) := Fm.w hs1 (by unfold PIt PH PQr; omega)
                      refine j_zret dX11_item_128 rfl rfl ?_
                      have hf : nuL S n t v (p + jk_sL.getD v 0) 3 = .inl q := nu_stop (by omega) (nuL_n hnu (so_n hv10 (by omega)) (nuS_0 (fun z => by have z1 := z.1; have z2 := z.2; first | omega | exact absurd z2 (by assumption))))
                      exact hQ _ _ (Or.inr ⟨rfl, q, itS_2 hwd hr3 hf, sm300, rd_s⟩)
                    · refine j_aload_n 0 dX11_item_100 rfl ?_
                      refine j_getr (q := 17) dX11_item_101 fX11_74 (shM (Fm.M hs1 hM) sgM_0) rfl (rfM (Fm.M hs1 hM) rfM_0_25) ?_
                      refine j_aload_n 0 dX11_item_104 rfl ?_
                      refine j_getv (nI b) dX11_item_105 fX11_199 (shM (Fm.M hs1 hM) sgM_0) rfl (RX.it rx hs1).2.2.1 ?_
                      refine j_aload_n 0 dX11_item_108 rfl ?_
                      refine j_getv (nI q) dX11_item_109 fX11_193 (shM (Fm.M hs1 hM) sgM_0) rfl (hpl.resolve_left (fun z => by omega)).2 ?_
                      refine j_iaddN b q dX11_item_112 ?_
                      refine j_laldN (b + q) dX11_item_113 (shM (Fm.M hs1 hM) sgM_17) (by omega) (by omega) ?_
                      refine j_l2i dX11_item_114 ?_
                      refine j_topi (t q) ((RX.it rx hs1).2.2.2.2.1 _ (by omega)) ?_
                      refine j_bipush 32 dX11_item_115 bp_32 ?_
                      refine j_icmp_eq (tgt := 129) dX11_item_117 rfl (fun c301 => ?_) (fun c301 => ?_)
                      · refine j_aload_n 0 dX11_item_129 rfl ?_
                        refine j_dup dX11_item_130 rfl ?_
                        refine j_getv (nI q) dX11_item_131 fX11_193 (shM (Fm.M hs1 hM) sgM_0) rfl (hpl.resolve_left (fun z => by omega)).2 ?_
                        refine j_iconst 1 dX11_item_134 ic_1 ?_
                        refine j_iaddN q 1 dX11_item_135 ?_
                        refine j_put dX11_item_136 fX11_193 (shM (Fm.M hs1 hM) sgM_0) rfl ?_
                        have sm302 : Fm PIt M (jk_wI M1 0 31 (nI (q + 1))) := Fm.w hs1 (by unfold PIt PH PQr; omega)
                        refine j_aload_n 0 dX11_item_139 rfl ?_
                        refine j_getv (nI (q + 1)) dX11_item_140 fX11_193 (shM (Fm.M sm302 hM) sgM_0) rfl rd_s ?_
                        refine j_istore_n (L' := [(3, .int (nI (q + 1))), (0, .ref 0), (1, .int (nI v)), (2, .int (nI i))]) dX11_item_143 (by decide) rfl ?_
                        have hmB : mv (jk_wI M1 0 31 (nI (q + 1))).2.1 = S := (Fm.mv (P := PQr) (Fm.w Fm.rf (by unfold PQr; omega)) hm1 (fun q k h => by unfold PH at h; unfold PQr; omega))
                        have hp1 : (jk_wI M1 0 31 (nI (q + 1))).2.1 0 31 = nI (q + 1) := rd_s
                        have hsp : q < n ∧ t q = 32 := by first | exact ⟨by omega, by assumption⟩ | exact (hpl.resolve_right (fun z => by omega)).2.2
                        refine j_aload_n 1 dX11_item_144 rfl ?_
                        refine j_callV (kc := 0) (ks := 0) (a := 0) (b := 0) (d' := (d + 1)) (As := []) dX11_item_145 kX11_219 rfl (shM (Fm.M sm302 hM) sgM_0) (by omega) rfl rfl rfl (Nat.le_of_ble_eq_true rfl) (Nat.le_of_ble_eq_true rfl) (T_X11_reads (Fm.M sm302 hM) (RX.it rx sm302) hp1 (by omega)) (kk_o (fun M303 hM304 => ?_) (fun M305 hM306 => ?_))
                        · obtain ⟨hdg, h0R, h33, h31⟩ := hM304
                          have sm307 : Fm PIt M M303 := Fm.tr sm302 (Fm.mo h0R PQr_I)
                          have hmR : mv M303.2.1 = S := Fm.mv h0R hmB (fun q k h => by unfold PH at h; unfold PQr; omega)
                          refine j_if_ne (tgt := 153) dX11_item_148 rfl (fun c308 => ?_) (fun c308 => ?_)
                          · refine j_aload_n 1 dX11_item_153 rfl ?_
                            refine j_iload_n 2 dX11_item_154 rfl ?_
                            refine j_iload_n 3 dX11_item_155 rfl ?_
                            refine j_callV (kc := 0) (ks := 0) (a := 0) (b := 0) (d' := (d + 2)) (As := [.int (nI v), .int (nI i)]) dX11_item_156 kX11_222 rfl (shM (Fm.M sm307 hM) sgM_0) (by omega) rfl rfl rfl (Nat.le_of_ble_eq_true rfl) (Nat.le_of_ble_eq_true rfl) (T_X11_isSo (Fm.M sm307 hM) hmR ok (nuV_pos hdg) h33 (w := v) (i := i) hv10 (by omega)) (kk_p ?_)
                            refine j_if_neB (p := (mayS S (soN v i) (nuV n t (q + 1)).1)) (tgt := 168) dX11_item_159 rfl (fun c309 => ?_) (fun c309 => ?_)
                            · refine j_aload_n 1 dX11_item_168 rfl ?_
                              refine j_getr (q := 21) dX11_item_169 fX11_87 (shM (Fm.M sm307 hM) sgM_0) rfl (rfM (Fm.M sm307 hM) rfM_0_29) ?_
                              refine j_iload_n 3 dX11_item_172 rfl ?_
                              refine j_aload_n 1 dX11_item_173 rfl ?_
                              refine j_getv (nuV n t (q + 1)).1 dX11_item_174 fX11_202 (shM (Fm.M sm307 hM) sgM_0) rfl h33 ?_
                              refine j_iastN i dX11_item_177 (shM (Fm.M sm307 hM) sgM_21) (by omega) (by omega) ?_
                              have sm310 : Fm PIt M (jk_wI M303 21 i (nuV n t (q + 1)).1) := Fm.w sm307 (by unfold PIt PH PQr; omega)
                              refine j_iinc 3 (nI (i + 1)) (L' := [(2, .int (nI (i + 1))), (3, .int (nI (q + 1))), (0, .ref 0), (1, .int (nI v))]) dX11_item_178 rfl (inc1 i) (by decide) rfl ?_
                              refine j_goto (tgt := 75) dX11_item_181 rfl ?_
                              exact j_sub (jk_pick [2, 3, 0] rfl) (ih258 (i + 1) ((nuV n t (q + 1)).2) (va_up vv i (nuV n t (q + 1)).1) (jk_wI M303 21 i (nuV n t (q + 1)).1) (by omega) (by omega) (nuL_y hnu (so_n hv10 (by omega)) (nuS_3 hsp hdg (by assumption))) sm310 (Fm.mv (P := fun q k => q = 21) (Fm.w Fm.rf rfl) hmR (fun q k h z => by unfold PH at h; omega)) (fun k hk => by
          by_cases e : k = i
          · rw [e, rd_s, va_up_self]
          · rw [rd_k e, va_up_ne _ _ e, Fm.rd h0R (by unfold PQr; omega)]; first | exact htl k (by omega) | exact (rd_o (by decide)).trans (htl k (by omega))) (Or.inr ⟨by omega, (rd_o (by decide)).trans h31⟩) (nuS_in (nuS_3 hsp hdg (by assumption))).2.2.2)
                            · refine j_aload_n 1 dX11_item_162 rfl ?_
                              refine j_iload_n 0 dX11_item_163 rfl ?_
                              refine j_callV (kc := 0) (ks := 0) (a := 0) (b := 0) (d' := d) (As := [.int (nI (q + 1))]) dX11_item_164 kX11_209 rfl (shM (Fm.M sm307 hM) sgM_0) (by omega) rfl rfl rfl (Nat.le_of_ble_eq_true rfl) (Nat.le_of_ble_eq_true rfl) (T_X11_wrong (Fm.M sm307 hM) (nI (q + 1))) (kk_p ?_)
                              have sm311 : Fm PIt M (jk_wI M303 0 34 (nI (q + 1))) := Fm.w sm307 (by unfold PIt PH PQr; omega)
                              refine j_zret dX11_item_167 rfl rfl ?_
                              have hf : nuL S n t v (p + jk_sL.getD v 0) 3 = .inl (q + 1) := nu_stop (by omega) (nuL_n hnu (so_n hv10 (by omega)) (nuS_2 hsp hdg (by assumption)))
                              exact hQ _ _ (Or.inr ⟨rfl, q + 1, itS_2 hwd hr3 hf, sm311, rd_s⟩)
                          · exact absurd c308 (by decide)
                        · obtain ⟨hdg, h0R, h34⟩ := hM306
                          have sm312 : Fm PIt M M305 := Fm.tr sm302 (Fm.mo h0R PQr_I)
                          refine j_if_ne (tgt := 153) dX11_item_148 rfl (fun c313 => ?_) (fun c313 => ?_)
                          · exact absurd c313 (by decide)
                          · refine j_iconst 0 dX11_item_151 ic_0 ?_
                            refine j_zret dX11_item_152 rfl rfl ?_
                            have hf : nuL S n t v (p + jk_sL.getD v 0) 3 = .inl (q + 1) := nu_stop (by omega) (nuL_n hnu (so_n hv10 (by omega)) (nuS_1 hsp hdg))
                            exact hQ _ _ (Or.inr ⟨rfl, q + 1, itS_2 hwd hr3 hf, sm312, h34⟩)
                      · refine j_aload_n 0 dX11_item_120 rfl ?_
                        refine j_aload_n 0 dX11_item_121 rfl ?_
                        refine j_getv (nI q) dX11_item_122 fX11_193 (shM (Fm.M hs1 hM) sgM_0) rfl (hpl.resolve_left (fun z => by omega)).2 ?_
                        refine j_callV (kc := 0) (ks := 0) (a := 0) (b := 0) (d' := d) (As := [.int (nI q)]) dX11_item_125 kX11_209 rfl (shM (Fm.M hs1 hM) sgM_0) (by omega) rfl rfl rfl (Nat.le_of_ble_eq_true rfl) (Nat.le_of_ble_eq_true rfl) (T_X11_wrong (Fm.M hs1 hM) (nI q)) (kk_p ?_)
                        have sm314 : Fm PIt M (jk_wI M1 0 34 (nI q)) := Fm.w hs1 (by unfold PIt PH PQr; omega)
                        refine j_zret dX11_item_128 rfl rfl ?_
                        have hf : nuL S n t v (p + jk_sL.getD v 0) 3 = .inl q := nu_stop (by omega) (nuL_n hnu (so_n hv10 (by omega)) (nuS_0 (fun z => by have z1 := z.1; have z2 := z.2; first | omega | exact absurd z2 (by assumption))))
                        exact hQ _ _ (Or.inr ⟨rfl, q, itS_2 hwd hr3 hf, sm314, rd_s⟩)
            exact j_sub (jk_pick [2, 1, 0] rfl) (lp259 _ 0 (p + jk_sL.getD v 0) (fun _ => 0) (jk_wI M 0 31 (nI (p + jk_sL.getD v 0 + 1))) (Nat.lt_succ_self _) (Nat.zero_le _) rfl sm255 hmW (fun k hk => absurd hk (Nat.not_lt_zero k)) (Or.inl ⟨rfl, rd_s, hspc⟩) (by omega))
          · exact absurd c256 (nI_n1 (by omega))
        · refine j_aload_n 0 dX11_item_43 rfl ?_
          refine j_getv (nI (nD S)) dX11_item_44 fX11_147 (shM hM sgM_0) rfl ((mr_D hS).trans (Sok.D ok).1) ?_
          refine j_bipush 6 dX11_item_47 bp_6 ?_
          refine j_icmp_neN (tgt := 61) (nD S) 6 dX11_item_49 rfl (by omega) (by omega) (fun c315 => ?_) (fun c315 => ?_)
          · have hroom : ∀ w, wdN n t p 10 = some w → roomS S w := fun w hw => ⟨(fun e => by first | omega | exact absurd (show mt n t p 1 = jk_sL.getD 1 0 by have q := (wd_lt 10 hw).2; rw [e] at q; exact q) (by assumption)), (fun e => by first | omega | exact absurd (show mt n t p 5 = jk_sL.getD 5 0 by have q := (wd_lt 10 hw).2; rw [e] at q; exact q) (by assumption)), (fun e => by first | omega | exact absurd (show mt n t p 6 = jk_sL.getD 6 0 by have q := (wd_lt 10 hw).2; rw [e] at q; exact q) (by assumption))⟩
            refine j_aload_n 0 dX11_item_61 rfl ?_
            refine j_callV (kc := 0) (ks := 0) (a := 0) (b := 0) (d' := d) (As := []) dX11_item_62 kX11_215 rfl (shM hM sgM_0) (by omega) rfl rfl rfl (Nat.le_of_ble_eq_true rfl) (Nat.le_of_ble_eq_true rfl) (T_wordS hM rx hp (by omega) v hv) (kk_p ?_)
            have sm316 : Fm PIt M (jk_wI M 0 31 (nI (p + jk_sL.getD v 0 + 1))) := Fm.w Fm.rf (by unfold PIt PH PQr; omega)
            refine j_istore_n (L' := [(1, .int (nI v)), (0, .ref 0)]) dX11_item_65 (by decide) rfl ?_
            have hr3 := hroom v hwd
            have hl9 := sL9 v hv10
            obtain ⟨-, hnb3, hnb1, -⟩ := nb_T v hv10
            have hmW : mv (jk_wI M 0 31 (nI (p + jk_sL.getD v 0 + 1))).2.1 = S := Fm.mv (P := PQr) (Fm.w Fm.rf (by unfold PQr; omega)) hS (fun q k h => by unfold PH at h; unfold PQr; omega)
            refine j_iload_n 0 dX11_item_66 rfl ?_
            refine j_iconst (-1) dX11_item_67 ic_n1 ?_
            refine j_icmp_ne (tgt := 73) dX11_item_68 rfl (fun c317 => ?_) (fun c317 => ?_)
            · refine j_iconst 0 dX11_item_73 ic_0 ?_
              refine j_istore_n (L' := [(2, .int 0), (1, .int (nI v)), (0, .ref 0)]) dX11_item_74 (by decide) rfl ?_
              have lp320 : ∀ (k318 : Nat) (i : Nat) (q : Nat) (vv : Nat → Int32) (M1 : jk_M), nbN v - i < k318 → (i ≤ nbN v) → (nuL S n t v (p + jk_sL.getD v 0) i = .inr (q, vv)) → (Fm PIt M M1) → (mv M1.2.1 = S) → (∀ k, k < i → M1.2.1 21 k = vv k) → ((i = 0 ∧ M1.2.1 0 31 = nI (q + 1) ∧ q < n ∧ t q = 32) ∨ (0 < i ∧ M1.2.1 0 31 = nI q)) → (q ≤ n) → J Fr_X11_item (d + 3) 0 0 75 [(0, .ref 0), (1, .int (nI v)), (2, .int (nI i))] [] M1 Q := by
                intro k318
                induction k318 with
                | zero => intro i q vv M1 hk; exact absurd hk (Nat.not_lt_zero _)
                | succ k318 ih319 =>
                  intro i q vv M1 hk318 hi hnu hs1 hm1 htl hpl hqn
                  refine j_iload_n 2 dX11_item_75 rfl ?_
                  refine j_aload_n 0 dX11_item_76 rfl ?_
                  refine j_getr (q := 20) dX11_item_77 fX11_84 (shM (Fm.M hs1 hM) sgM_0) rfl (rfM (Fm.M hs1 hM) rfM_0_28) ?_
                  refine j_iload_n 1 dX11_item_80 rfl ?_
                  refine j_ialdN v dX11_item_81 (shM (Fm.M hs1 hM) sgM_20) (by omega) (by omega) ?_
                  refine j_topi (nI (nbN v)) (((RX.it rx hs1).2.2.2.2.2.2 _ (by omega)).trans (nb_T v hv10).1) ?_
                  refine j_icmp_geN (tgt := 184) i (nbN v) dX11_item_82 rfl (by omega) (by omega) (fun c321 => ?_) (fun c321 => ?_)
                  · have ei : i = nbN v := by omega
                    have hn3 := nu_end hv10 (by rw [← ei]; exact hnu)
                    have hmay := (nuL_may 3 _ _ hn3).1
                    have h31b : M1.2.1 0 31 = nI q := (hpl.resolve_left (fun z => by omega)).2
                    refine j_iload_n 1 dX11_item_184 rfl ?_
                    by_cases c323 : (nI v) = 0
                    · refine j_tableIn (tgt := 240) dX11_item_185 (by rw [c323]; decide) (by rw [c323]; decide) (off := 55) (by rw [c323]; decide) rfl ?_
                      have hvk : v = 0 := (nI_eq (by omega) (by omega)).mp (c323 : nI v = nI 0)
                      have hnbk : nbN v = 1 := by rw [hvk]; rfl
                      refine j_aload_n 0 dX11_item_240 rfl ?_
                      refine j_aload_n 0 dX11_item_241 rfl ?_
                      refine j_getr (q := 21) dX11_item_242 fX11_87 (shM (Fm.M hs1 hM) sgM_0) rfl (rfM (Fm.M hs1 hM) rfM_0_29) ?_
                      refine j_iconst 0 dX11_item_245 ic_0 ?_
                      refine j_ialdN 0 dX11_item_246 (shM (Fm.M hs1 hM) sgM_21) (by omega) (by omega) ?_
                      refine j_topi (vv 0) (htl _ (by omega)) ?_
                      refine j_put dX11_item_247 fX11_7 (shM (Fm.M hs1 hM) sgM_0) rfl ?_
                      have sm324 : Fm PIt M (jk_wI M1 0 3 (vv 0)) := Fm.w hs1 (by unfold PIt PH PQr; omega)
                      refine j_goto (tgt := 409) dX11_item_250 rfl ?_
                      refine j_iconst 1 dX11_item_409 ic_1 ?_
                      refine j_zret dX11_item_410 rfl rfl ?_
                      have hmv : mv (jk_wI M1 0 3 (vv 0)).2.1 = apS S v (vv 0) (vv 1) (vv 2) := by
                        rw [hvk]
                        exact mv_sc (a := 0) hm1 (by decide) (by decide) (by decide) (by decide)
                      have h31e : (jk_wI M1 0 3 (vv 0)).2.1 0 31 = nI q := (rd_p (by omega)).trans h31b
                      exact hQ _ _ (Or.inl ⟨rfl, _, q, itS_3 hwd hr3 hn3, sm324, hmv, h31e⟩)
                    by_cases c325 : (nI v) = 1
                    · refine j_tableIn (tgt := 253) dX11_item_185 (by rw [c325]; decide) (by rw [c325]; decide) (off := 68) (by rw [c325]; decide) rfl ?_
                      have hvk : v = 1 := (nI_eq (by omega) (by omega)).mp (c325 : nI v = nI 1)
                      have hnbk : nbN v = 3 := by rw [hvk]; rfl
                      obtain ⟨hr1, hr5, hr6⟩ := hr3
                      have hlt := hr1 hvk
                      have hr3 : roomS S v := ⟨hr1, hr5, hr6⟩
                      refine j_aload_n 0 dX11_item_253 rfl ?_
                      refine j_aload_n 0 dX11_item_254 rfl ?_
                      refine j_getr (q := 21) dX11_item_255 fX11_87 (shM (Fm.M hs1 hM) sgM_0) rfl (rfM (Fm.M hs1 hM) rfM_0_29) ?_
                      refine j_iconst 0 dX11_item_258 ic_0 ?_
                      refine j_ialdN 0 dX11_item_259 (shM (Fm.M hs1 hM) sgM_21) (by omega) (by omega) ?_
                      refine j_topi (vv 0) (htl _ (by omega)) ?_
                      refine j_aload_n 0 dX11_item_260 rfl ?_
                      refine j_getr (q := 21) dX11_item_261 fX11_87 (shM (Fm.M hs1 hM) sgM_0) rfl (rfM (Fm.M hs1 hM) rfM_0_29) ?_
                      refine j_iconst 1 dX11_item_264 ic_1 ?_
                      refine j_ialdN 1 dX11_item_265 (shM (Fm.M hs1 hM) sgM_21) (by omega) (by omega) ?_
                      refine j_topi (vv 1) (htl _ (by omega)) ?_
                      refine j_aload_n 0 dX11_item_266 rfl ?_
                      refine j_getr (q := 21) dX11_item_267 fX11_87 (shM (Fm.M hs1 hM) sgM_0) rfl (rfM (Fm.M hs1 hM) rfM_0_29) ?_
                      refine j_iconst 2 dX11_item_270 ic_2 ?_
                      refine j_ialdN 2 dX11_item_271 (shM (Fm.M hs1 hM) sgM_21) (by omega) (by omega) ?_
                      refine j_topi (vv 2) (htl _ (by omega)) ?_
                      refine j_callV (kc := 0) (ks := 0) (a := 0) (b := 0) (d' := d) (As := [.int (vv 0), .int (vv 1), .int (vv 2)]) dX11_item_272 kX11_157 rfl (shM (Fm.M hs1 hM) sgM_0) (by omega) rfl rfl rfl (Nat.le_of_ble_eq_true rfl) (Nat.le_of_ble_eq_true rfl) (T_X11_addsThing (Fm.M hs1 hM) hm1 ok (vv 0) (vv 1) (vv 2) hlt) (kk_e (fun M326 hM327 => ?_))
                      obtain ⟨h0A, hvA⟩ := hM327
                      have smA : Fm PIt M M326 := Fm.tr hs1 (Fm.mo h0A PA_I)
                      refine j_pop dX11_item_275 rfl ?_
                      refine j_goto (tgt := 409) dX11_item_276 rfl ?_
                      refine j_iconst 1 dX11_item_409 ic_1 ?_
                      refine j_zret dX11_item_410 rfl rfl ?_
                      have hmv : mv M326.2.1 = apS S v (vv 0) (vv 1) (vv 2) := by
                        rw [hvk]
                        exact hvA
                      have h31e : M326.2.1 0 31 = nI q := (Fm.rd h0A (by unfold PA; omega)).trans h31b
                      exact hQ _ _ (Or.inl ⟨rfl, _, q, itS_3 hwd hr3 hn3, smA, hmv, h31e⟩)
                    by_cases c328 : (nI v) = 2
                    · refine j_tableIn (tgt := 279) dX11_item_185 (by rw [c328]; decide) (by rw [c328]; decide) (off := 94) (by rw [c328]; decide) rfl ?_
                      have hvk : v = 2 := (nI_eq (by omega) (by omega)).mp (c328 : nI v = nI 2)
                      have hnbk : nbN v = 2 := by rw [hvk]; rfl
                      have hm0 : mayS S 4 (vv 0) := by have q := hmay 0 (by omega) (by rw [hvk]; decide); rw [hvk] at q; exact q
                      rw [may_4] at hm0
                      obtain ⟨j0, hj0, ej0⟩ := in2 hm0
                      refine j_aload_n 0 dX11_item_279 rfl ?_
                      refine j_getr (q := 12) dX11_item_280 fX11_59 (shM (Fm.M hs1 hM) sgM_0) rfl (rfM (Fm.M hs1 hM) rfM_0_20) ?_
                      refine j_aload_n 0 dX11_item_283 rfl ?_
                      refine j_getr (q := 21) dX11_item_284 fX11_87 (shM (Fm.M hs1 hM) sgM_0) rfl (rfM (Fm.M hs1 hM) rfM_0_29) ?_
                      refine j_iconst 0 dX11_item_287 ic_0 ?_
                      refine j_ialdN 0 dX11_item_288 (shM (Fm.M hs1 hM) sgM_21) (by omega) (by omega) ?_
                      refine j_topi (nI j0) ((htl 0 (by omega)).trans ej0) ?_
                      refine j_aload_n 0 dX11_item_289 rfl ?_
                      refine j_getr (q := 21) dX11_item_290 fX11_87 (shM (Fm.M hs1 hM) sgM_0) rfl (rfM (Fm.M hs1 hM) rfM_0_29) ?_
                      refine j_iconst 1 dX11_item_293 ic_1 ?_
                      refine j_ialdN 1 dX11_item_294 (shM (Fm.M hs1 hM) sgM_21) (by omega) (by omega) ?_
                      refine j_topi (vv 1) (htl _ (by omega)) ?_
                      refine j_iastN j0 dX11_item_295 (shM (Fm.M hs1 hM) sgM_12) (by omega) (by omega) ?_
                      have sm329 : Fm PIt M (jk_wI M1 12 j0 (vv 1)) := Fm.w hs1 (by unfold PIt PH PQr; omega)
                      refine j_goto (tgt := 409) dX11_item_296 rfl ?_
                      refine j_iconst 1 dX11_item_409 ic_1 ?_
                      refine j_zret dX11_item_410 rfl rfl ?_
                      have hmv : mv (jk_wI M1 12 j0 (vv 1)).2.1 = apS S v (vv 0) (vv 1) (vv 2) := by
                        rw [hvk]
                        refine (show mv (jk_wI M1 12 j0 (vv 1)).2.1 = if vv 0 = 0 then upS S 5 0 (vv 1) else upS S 6 0 (vv 1) from ?_)
                        rcases (show j0 = 0 ∨ j0 = 1 by omega) with e | e
                        · subst e; rw [if_pos (show vv 0 = 0 from ej0)]; exact mv_sc (a := 5) hm1 (by decide) (by decide) (by decide) (by decide)
                        · subst e; rw [if_neg (by rw [ej0]; decide)]; exact mv_sc (a := 6) hm1 (by decide) (by decide) (by decide) (by decide)
                      have h31e : (jk_wI M1 12 j0 (vv 1)).2.1 0 31 = nI q := (rd_p (by omega)).trans h31b
                      exact hQ _ _ (Or.inl ⟨rfl, _, q, itS_3 hwd hr3 hn3, sm329, hmv, h31e⟩)
                    by_cases c330 : (nI v) = 3
                    · refine j_tableIn (tgt := 299) dX11_item_185 (by rw [c330]; decide) (by rw [c330]; decide) (off := 114) (by rw [c330]; decide) rfl ?_
                      have hvk : v = 3 := (nI_eq (by omega) (by omega)).mp (c330 : nI v = nI 3)
                      have hnbk : nbN v = 1 := by rw [hvk]; rfl
                      refine j_aload_n 0 dX11_item_299 rfl ?_
                      refine j_iconst 0 dX11_item_300 ic_0 ?_
                      refine j_aload_n 0 dX11_item_301 rfl ?_
                      refine j_getr (q := 21) dX11_item_302 fX11_87 (shM (Fm.M hs1 hM) sgM_0) rfl (rfM (Fm.M hs1 hM) rfM_0_29) ?_
                      refine j_iconst 0 dX11_item_305 ic_0 ?_
                      refine j_ialdN 0 dX11_item_306 (shM (Fm.M hs1 hM) sgM_21) (by omega) (by omega) ?_
                      refine j_topi (vv 0) (htl _ (by omega)) ?_
                      refine j_callV (kc := 0) (ks := 0) (a := 0) (b := 0) (d' := d) (As := [.int 0, .int (vv 0)]) dX11_item_307 kX11_177 rfl (shM (Fm.M hs1 hM) sgM_0) (by omega) rfl rfl rfl (Nat.le_of_ble_eq_true rfl) (Nat.le_of_ble_eq_true rfl) (T_tells0 (Fm.M hs1 hM) (vv 0)) (kk_pv ?_)
                      have sm331 : Fm PIt M (jk_wI M1 0 4 (vv 0)) := Fm.w hs1 (by unfold PIt PH PQr; omega)
                      refine j_goto (tgt := 409) dX11_item_310 rfl ?_
                      refine j_iconst 1 dX11_item_409 ic_1 ?_
                      refine j_zret dX11_item_410 rfl rfl ?_
                      have hmv : mv (jk_wI M1 0 4 (vv 0)).2.1 = apS S v (vv 0) (vv 1) (vv 2) := by
                        rw [hvk]
                        exact mv_sc (a := 1) hm1 (by decide) (by decide) (by decide) (by decide)
                      have h31e : (jk_wI M1 0 4 (vv 0)).2.1 0 31 = nI q := (rd_p (by omega)).trans h31b
                      exact hQ _ _ (Or.inl ⟨rfl, _, q, itS_3 hwd hr3 hn3, sm331, hmv, h31e⟩)
                    by_cases c332 : (nI v) = 4
                    · refine j_tableIn (tgt := 313) dX11_item_185 (by rw [c332]; decide) (by rw [c332]; decide) (off := 128) (by rw [c332]; decide) rfl ?_
                      have hvk : v = 4 := (nI_eq (by omega) (by omega)).mp (c332 : nI v = nI 4)
                      have hnbk : nbN v = 1 := by rw [hvk]; rfl
                      refine j_aload_n 0 dX11_item_313 rfl ?_
                      refine j_iconst 1 dX11_item_314 ic_1 ?_
                      refine j_aload_n 0 dX11_item_315 rfl ?_
                      refine j_getr (q := 21) dX11_item_316 fX11_87 (shM (Fm.M hs1 hM) sgM_0) rfl (rfM (Fm.M hs1 hM) rfM_0_29) ?_
                      refine j_iconst 0 dX11_item_319 ic_0 ?_
                      refine j_ialdN 0 dX11_item_320 (shM (Fm.M hs1 hM) sgM_21) (by omega) (by omega) ?_
                      refine j_topi (vv 0) (htl _ (by omega)) ?_
                      refine j_callV (kc := 0) (ks := 0) (a := 0) (b := 0) (d' := d) (As := [.int 1, .int (vv 0)]) dX11_item_321 kX11_177 rfl (shM (Fm.M hs1 hM) sgM_0) (by omega) rfl rfl rfl (Nat.le_of_ble_eq_true rfl) (Nat.le_of_ble_eq_true rfl) (T_tells1 (Fm.M hs1 hM) (vv 0)) (kk_pv ?_)
                      have sm333 : Fm PIt M (jk_wI M1 0 5 (vv 0)) := Fm.w hs1 (by unfold PIt PH PQr; omega)
                      refine j_goto (tgt := 409) dX11_item_324 rfl ?_
                      refine j_iconst 1 dX11_item_409 ic_1 ?_
                      refine j_zret dX11_item_410 rfl rfl ?_
                      have hmv : mv (jk_wI M1 0 5 (vv 0)).2.1 = apS S v (vv 0) (vv 1) (vv 2) := by
                        rw [hvk]
                        exact mv_sc (a := 2) hm1 (by decide) (by decide) (by decide) (by decide)
                      have h31e : (jk_wI M1 0 5 (vv 0)).2.1 0 31 = nI q := (rd_p (by omega)).trans h31b
                      exact hQ _ _ (Or.inl ⟨rfl, _, q, itS_3 hwd hr3 hn3, sm333, hmv, h31e⟩)
                    by_cases c334 : (nI v) = 5
                    · refine j_tableIn (tgt := 327) dX11_item_185 (by rw [c334]; decide) (by rw [c334]; decide) (off := 142) (by rw [c334]; decide) rfl ?_
                      have hvk : v = 5 := (nI_eq (by omega) (by omega)).mp (c334 : nI v = nI 5)
                      have hnbk : nbN v = 2 := by rw [hvk]; rfl
                      obtain ⟨hr1, hr5, hr6⟩ := hr3
                      have hlt := hr5 hvk
                      have hr3 : roomS S v := ⟨hr1, hr5, hr6⟩
                      refine j_aload_n 0 dX11_item_327 rfl ?_
                      refine j_aload_n 0 dX11_item_328 rfl ?_
                      refine j_getr (q := 21) dX11_item_329 fX11_87 (shM (Fm.M hs1 hM) sgM_0) rfl (rfM (Fm.M hs1 hM) rfM_0_29) ?_
                      refine j_iconst 0 dX11_item_332 ic_0 ?_
                      refine j_ialdN 0 dX11_item_333 (shM (Fm.M hs1 hM) sgM_21) (by omega) (by omega) ?_
                      refine j_topi (vv 0) (htl _ (by omega)) ?_
                      refine j_aload_n 0 dX11_item_334 rfl ?_
                      refine j_getr (q := 21) dX11_item_335 fX11_87 (shM (Fm.M hs1 hM) sgM_0) rfl (rfM (Fm.M hs1 hM) rfM_0_29) ?_
                      refine j_iconst 1 dX11_item_338 ic_1 ?_
                      refine j_ialdN 1 dX11_item_339 (shM (Fm.M hs1 hM) sgM_21) (by omega) (by omega) ?_
                      refine j_topi (vv 1) (htl _ (by omega)) ?_
                      refine j_callV (kc := 0) (ks := 0) (a := 0) (b := 0) (d' := d) (As := [.int (vv 0), .int (vv 1)]) dX11_item_340 kX11_161 rfl (shM (Fm.M hs1 hM) sgM_0) (by omega) rfl rfl rfl (Nat.le_of_ble_eq_true rfl) (Nat.le_of_ble_eq_true rfl) (T_X11_addsNeighbour (Fm.M hs1 hM) hm1 ok (vv 0) (vv 1) hlt) (kk_e (fun M335 hM336 => ?_))
                      obtain ⟨h0A, hvA⟩ := hM336
                      have smA : Fm PIt M M335 := Fm.tr hs1 (Fm.mo h0A PA_I)
                      refine j_pop dX11_item_343 rfl ?_
                      refine j_goto (tgt := 409) dX11_item_344 rfl ?_
                      refine j_iconst 1 dX11_item_409 ic_1 ?_
                      refine j_zret dX11_item_410 rfl rfl ?_
                      have hmv : mv M335.2.1 = apS S v (vv 0) (vv 1) (vv 2) := by
                        rw [hvk]
                        exact hvA
                      have h31e : M335.2.1 0 31 = nI q := (Fm.rd h0A (by unfold PA; omega)).trans h31b
                      exact hQ _ _ (Or.inl ⟨rfl, _, q, itS_3 hwd hr3 hn3, smA, hmv, h31e⟩)
                    by_cases c337 : (nI v) = 6
                    · refine j_tableIn (tgt := 347) dX11_item_185 (by rw [c337]; decide) (by rw [c337]; decide) (off := 162) (by rw [c337]; decide) rfl ?_
                      have hvk : v = 6 := (nI_eq (by omega) (by omega)).mp (c337 : nI v = nI 6)
                      have hnbk : nbN v = 3 := by rw [hvk]; rfl
                      obtain ⟨hr1, hr5, hr6⟩ := hr3
                      have hlt := hr6 hvk
                      have hr3 : roomS S v := ⟨hr1, hr5, hr6⟩
                      refine j_aload_n 0 dX11_item_347 rfl ?_
                      refine j_aload_n 0 dX11_item_348 rfl ?_
                      refine j_getr (q := 21) dX11_item_349 fX11_87 (shM (Fm.M hs1 hM) sgM_0) rfl (rfM (Fm.M hs1 hM) rfM_0_29) ?_
                      refine j_iconst 0 dX11_item_352 ic_0 ?_
                      refine j_ialdN 0 dX11_item_353 (shM (Fm.M hs1 hM) sgM_21) (by omega) (by omega) ?_
                      refine j_topi (vv 0) (htl _ (by omega)) ?_
                      refine j_aload_n 0 dX11_item_354 rfl ?_
                      refine j_getr (q := 21) dX11_item_355 fX11_87 (shM (Fm.M hs1 hM) sgM_0) rfl (rfM (Fm.M hs1 hM) rfM_0_29) ?_
                      refine j_iconst 1 dX11_item_358 ic_1 ?_
                      refine j_ialdN 1 dX11_item_359 (shM (Fm.M hs1 hM) sgM_21) (by omega) (by omega) ?_
                      refine j_topi (vv 1) (htl _ (by omega)) ?_
                      refine j_aload_n 0 dX11_item_360 rfl ?_
                      refine j_getr (q := 21) dX11_item_361 fX11_87 (shM (Fm.M hs1 hM) sgM_0) rfl (rfM (Fm.M hs1 hM) rfM_0_29) ?_
                      refine j_iconst 2 dX11_item_364 ic_2 ?_
                      refine j_ialdN 2 dX11_item_365 (shM (Fm.M hs1 hM) sgM_21) (by omega) (by omega) ?_
                      refine j_topi (vv 2) (htl _ (by omega)) ?_
                      refine j_callV (kc := 0) (ks := 0) (a := 0) (b := 0) (d' := d) (As := [.int (vv 0), .int (vv 1), .int (vv 2)]) dX11_item_366 kX11_164 rfl (shM (Fm.M hs1 hM) sgM_0) (by omega) rfl rfl rfl (Nat.le_of_ble_eq_true rfl) (Nat.le_of_ble_eq_true rfl) (T_X11_addsDevice (Fm.M hs1 hM) hm1 ok (vv 0) (vv 1) (vv 2) hlt) (kk_e (fun M338 hM339 => ?_))
                      obtain ⟨h0A, hvA⟩ := hM339
                      have smA : Fm PIt M M338 := Fm.tr hs1 (Fm.mo h0A PA_I)
                      refine j_pop dX11_item_369 rfl ?_
                      refine j_goto (tgt := 409) dX11_item_370 rfl ?_
                      refine j_iconst 1 dX11_item_409 ic_1 ?_
                      refine j_zret dX11_item_410 rfl rfl ?_
                      have hmv : mv M338.2.1 = apS S v (vv 0) (vv 1) (vv 2) := by
                        rw [hvk]
                        exact hvA
                      have h31e : M338.2.1 0 31 = nI q := (Fm.rd h0A (by unfold PA; omega)).trans h31b
                      exact hQ _ _ (Or.inl ⟨rfl, _, q, itS_3 hwd hr3 hn3, smA, hmv, h31e⟩)
                    by_cases c340 : (nI v) = 7
                    · refine j_tableIn (tgt := 387) dX11_item_185 (by rw [c340]; decide) (by rw [c340]; decide) (off := 202) (by rw [c340]; decide) rfl ?_
                      have hvk : v = 7 := (nI_eq (by omega) (by omega)).mp (c340 : nI v = nI 7)
                      have hnbk : nbN v = 1 := by rw [hvk]; rfl
                      have hm0 : mayS S 10 (vv 0) := by have q := hmay 0 (by omega) (by rw [hvk]; decide); rw [hvk] at q; exact q
                      obtain ⟨j0, hj0, ej0⟩ := may10 ok hm0
                      refine j_aload_n 0 dX11_item_387 rfl ?_
                      refine j_getr (q := 5) dX11_item_388 fX11_38 (shM (Fm.M hs1 hM) sgM_0) rfl (rfM (Fm.M hs1 hM) rfM_0_13) ?_
                      refine j_aload_n 0 dX11_item_391 rfl ?_
                      refine j_getr (q := 21) dX11_item_392 fX11_87 (shM (Fm.M hs1 hM) sgM_0) rfl (rfM (Fm.M hs1 hM) rfM_0_29) ?_
                      refine j_iconst 0 dX11_item_395 ic_0 ?_
                      refine j_ialdN 0 dX11_item_396 (shM (Fm.M hs1 hM) sgM_21) (by omega) (by omega) ?_
                      refine j_topi (nI j0) ((htl 0 (by omega)).trans ej0) ?_
                      refine j_iload_n 1 dX11_item_397 rfl ?_
                      refine j_bipush 8 dX11_item_398 bp_8 ?_
                      refine j_icmp_neN (tgt := 407) v 8 dX11_item_400 rfl (by omega) (by omega) (fun c341 => ?_) (fun c341 => ?_)
                      · refine j_iconst 0 dX11_item_407 ic_0 ?_
                        refine j_iastN j0 dX11_item_408 (shM (Fm.M hs1 hM) sgM_5) (by omega) (by omega) ?_
                        have sm342 : Fm PIt M (jk_wI M1 5 j0 0) := Fm.w hs1 (by unfold PIt PH PQr; omega)
                        refine j_iconst 1 dX11_item_409 ic_1 ?_
                        refine j_zret dX11_item_410 rfl rfl ?_
                        have hmv : mv (jk_wI M1 5 j0 0).2.1 = apS S v (vv 0) (vv 1) (vv 2) := by
                          rw [hvk]
                          show mv (jk_wI M1 5 j0 0).2.1 = upS S 13 (vv 0).toNatClampNeg 0
                          rw [ej0, nI_clamp (by omega)]; exact mv_ar (a := 13) hm1 (by omega)
                        have h31e : (jk_wI M1 5 j0 0).2.1 0 31 = nI q := (rd_p (by omega)).trans h31b
                        exact hQ _ _ (Or.inl ⟨rfl, _, q, itS_3 hwd hr3 hn3, sm342, hmv, h31e⟩)
                      · exact absurd (hvk.symm.trans c341) (by decide)
                    by_cases c343 : (nI v) = 8
                    · refine j_tableIn (tgt := 387) dX11_item_185 (by rw [c343]; decide) (by rw [c343]; decide) (off := 202) (by rw [c343]; decide) rfl ?_
                      have hvk : v = 8 := (nI_eq (by omega) (by omega)).mp (c343 : nI v = nI 8)
                      have hnbk : nbN v = 1 := by rw [hvk]; rfl
                      have hm0 : mayS S 10 (vv 0) := by have q := hmay 0 (by omega) (by rw [hvk]; decide); rw [hvk] at q; exact q
                      obtain ⟨j0, hj0, ej0⟩ := may10 ok hm0
                      refine j_aload_n 0 dX11_item_387 rfl ?_
                      refine j_getr (q := 5) dX11_item_388 fX11_38 (shM (Fm.M hs1 hM) sgM_0) rfl (rfM (Fm.M hs1 hM) rfM_0_13) ?_
                      refine j_aload_n 0 dX11_item_391 rfl ?_
                      refine j_getr (q := 21) dX11_item_392 fX11_87 (shM (Fm.M hs1 hM) sgM_0) rfl (rfM (Fm.M hs1 hM) rfM_0_29) ?_
                      refine j_iconst 0 dX11_item_395 ic_0 ?_
                      refine j_ialdN 0 dX11_item_396 (shM (Fm.M hs1 hM) sgM_21) (by omega) (by omega) ?_
                      refine j_topi (nI j0) ((htl 0 (by omega)).trans ej0) ?_
                      refine j_iload_n 1 dX11_item_397 rfl ?_
                      refine j_bipush 8 dX11_item_398 bp_8 ?_
                      refine j_icmp_neN (tgt := 407) v 8 dX11_item_400 rfl (by omega) (by omega) (fun c344 => ?_) (fun c344 => ?_)
                      · exact absurd hvk c344
                      · refine j_iconst 1 dX11_item_403 ic_1 ?_
                        refine j_goto (tgt := 408) dX11_item_404 rfl ?_
                        refine j_iastN j0 dX11_item_408 (shM (Fm.M hs1 hM) sgM_5) (by omega) (by omega) ?_
                        have sm345 : Fm PIt M (jk_wI M1 5 j0 1) := Fm.w hs1 (by unfold PIt PH PQr; omega)
                        refine j_iconst 1 dX11_item_409 ic_1 ?_
                        refine j_zret dX11_item_410 rfl rfl ?_
                        have hmv : mv (jk_wI M1 5 j0 1).2.1 = apS S v (vv 0) (vv 1) (vv 2) := by
                          rw [hvk]
                          show mv (jk_wI M1 5 j0 1).2.1 = upS S 13 (vv 0).toNatClampNeg 1
                          rw [ej0, nI_clamp (by omega)]; exact mv_ar (a := 13) hm1 (by omega)
                        have h31e : (jk_wI M1 5 j0 1).2.1 0 31 = nI q := (rd_p (by omega)).trans h31b
                        exact hQ _ _ (Or.inl ⟨rfl, _, q, itS_3 hwd hr3 hn3, sm345, hmv, h31e⟩)
                    by_cases c346 : (nI v) = 9
                    · refine j_tableIn (tgt := 373) dX11_item_185 (by rw [c346]; decide) (by rw [c346]; decide) (off := 188) (by rw [c346]; decide) rfl ?_
                      have hvk : v = 9 := (nI_eq (by omega) (by omega)).mp (c346 : nI v = nI 9)
                      have hnbk : nbN v = 1 := by rw [hvk]; rfl
                      refine j_aload_n 0 dX11_item_373 rfl ?_
                      refine j_iconst 2 dX11_item_374 ic_2 ?_
                      refine j_aload_n 0 dX11_item_375 rfl ?_
                      refine j_getr (q := 21) dX11_item_376 fX11_87 (shM (Fm.M hs1 hM) sgM_0) rfl (rfM (Fm.M hs1 hM) rfM_0_29) ?_
                      refine j_iconst 0 dX11_item_379 ic_0 ?_
                      refine j_ialdN 0 dX11_item_380 (shM (Fm.M hs1 hM) sgM_21) (by omega) (by omega) ?_
                      refine j_topi (vv 0) (htl _ (by omega)) ?_
                      refine j_callV (kc := 0) (ks := 0) (a := 0) (b := 0) (d' := d) (As := [.int 2, .int (vv 0)]) dX11_item_381 kX11_177 rfl (shM (Fm.M hs1 hM) sgM_0) (by omega) rfl rfl rfl (Nat.le_of_ble_eq_true rfl) (Nat.le_of_ble_eq_true rfl) (T_tells2 (Fm.M hs1 hM) (vv 0)) (kk_pv ?_)
                      have sm347 : Fm PIt M (jk_wI M1 0 6 (vv 0)) := Fm.w hs1 (by unfold PIt PH PQr; omega)
                      refine j_goto (tgt := 409) dX11_item_384 rfl ?_
                      refine j_iconst 1 dX11_item_409 ic_1 ?_
                      refine j_zret dX11_item_410 rfl rfl ?_
                      have hmv : mv (jk_wI M1 0 6 (vv 0)).2.1 = apS S v (vv 0) (vv 1) (vv 2) := by
                        rw [hvk]
                        exact mv_sc (a := 3) hm1 (by decide) (by decide) (by decide) (by decide)
                      have h31e : (jk_wI M1 0 6 (vv 0)).2.1 0 31 = nI q := (rd_p (by omega)).trans h31b
                      exact hQ _ _ (Or.inl ⟨rfl, _, q, itS_3 hwd hr3 hn3, sm347, hmv, h31e⟩)
                    have hv10b : v = 0 ∨ v = 1 ∨ v = 2 ∨ v = 3 ∨ v = 4 ∨ v = 5 ∨ v = 6 ∨ v = 7 ∨ v = 8 ∨ v = 9 := by omega
                    exfalso
                    rcases hv10b with rfl | rfl | rfl | rfl | rfl | rfl | rfl | rfl | rfl | rfl
                    · exact c323 rfl
                    · exact c325 rfl
                    · exact c328 rfl
                    · exact c330 rfl
                    · exact c332 rfl
                    · exact c334 rfl
                    · exact c337 rfl
                    · exact c340 rfl
                    · exact c343 rfl
                    · exact c346 rfl
                  · refine j_iload_n 2 dX11_item_85 rfl ?_
                    refine j_if_leN (tgt := 139) i dX11_item_86 (by omega) rfl (fun c348 => ?_) (fun c348 => ?_)
                    · refine j_aload_n 0 dX11_item_139 rfl ?_
                      refine j_getv (nI (q + 1)) dX11_item_140 fX11_193 (shM (Fm.M hs1 hM) sgM_0) rfl (hpl.resolve_right (fun z => by omega)).2.1 ?_
                      refine j_istore_n (L' := [(3, .int (nI (q + 1))), (0, .ref 0), (1, .int (nI v)), (2, .int (nI i))]) dX11_item_143 (by decide) rfl ?_
                      have hmB : mv M1.2.1 = S := hm1
                      have hp1 : M1.2.1 0 31 = nI (q + 1) := (hpl.resolve_right (fun z => by omega)).2.1
                      have hsp : q < n ∧ t q = 32 := by first | exact ⟨by omega, by assumption⟩ | exact (hpl.resolve_right (fun z => by omega)).2.2
                      refine j_aload_n 1 dX11_item_144 rfl ?_
                      refine j_callV (kc := 0) (ks := 0) (a := 0) (b := 0) (d' := (d + 1)) (As := []) dX11_item_145 kX11_219 rfl (shM (Fm.M hs1 hM) sgM_0) (by omega) rfl rfl rfl (Nat.le_of_ble_eq_true rfl) (Nat.le_of_ble_eq_true rfl) (T_X11_reads (Fm.M hs1 hM) (RX.it rx hs1) hp1 (by omega)) (kk_o (fun M349 hM350 => ?_) (fun M351 hM352 => ?_))
                      · obtain ⟨hdg, h0R, h33, h31⟩ := hM350
                        have sm353 : Fm PIt M M349 := Fm.tr hs1 (Fm.mo h0R PQr_I)
                        have hmR : mv M349.2.1 = S := Fm.mv h0R hmB (fun q k h => by unfold PH at h; unfold PQr; omega)
                        refine j_if_ne (tgt := 153) dX11_item_148 rfl (fun c354 => ?_) (fun c354 => ?_)
                        · refine j_aload_n 1 dX11_item_153 rfl ?_
                          refine j_iload_n 2 dX11_item_154 rfl ?_
                          refine j_iload_n 3 dX11_item_155 rfl ?_
                          refine j_callV (kc := 0) (ks := 0) (a := 0) (b := 0) (d' := (d + 2)) (As := [.int (nI v), .int (nI i)]) dX11_item_156 kX11_222 rfl (shM (Fm.M sm353 hM) sgM_0) (by omega) rfl rfl rfl (Nat.le_of_ble_eq_true rfl) (Nat.le_of_ble_eq_true rfl) (T_X11_isSo (Fm.M sm353 hM) hmR ok (nuV_pos hdg) h33 (w := v) (i := i) hv10 (by omega)) (kk_p ?_)
                          refine j_if_neB (p := (mayS S (soN v i) (nuV n t (q + 1)).1)) (tgt := 168) dX11_item_159 rfl (fun c355 => ?_) (fun c355 => ?_)
                          · refine j_aload_n 1 dX11_item_168 rfl ?_
                            refine j_getr (q := 21) dX11_item_169 fX11_87 (shM (Fm.M sm353 hM) sgM_0) rfl (rfM (Fm.M sm353 hM) rfM_0_29) ?_
                            refine j_iload_n 3 dX11_item_172 rfl ?_
                            refine j_aload_n 1 dX11_item_173 rfl ?_
                            refine j_getv (nuV n t (q + 1)).1 dX11_item_174 fX11_202 (shM (Fm.M sm353 hM) sgM_0) rfl h33 ?_
                            refine j_iastN i dX11_item_177 (shM (Fm.M sm353 hM) sgM_21) (by omega) (by omega) ?_
                            have sm356 : Fm PIt M (jk_wI M349 21 i (nuV n t (q + 1)).1) := Fm.w sm353 (by unfold PIt PH PQr; omega)
                            refine j_iinc 3 (nI (i + 1)) (L' := [(2, .int (nI (i + 1))), (3, .int (nI (q + 1))), (0, .ref 0), (1, .int (nI v))]) dX11_item_178 rfl (inc1 i) (by decide) rfl ?_
                            refine j_goto (tgt := 75) dX11_item_181 rfl ?_
                            exact j_sub (jk_pick [2, 3, 0] rfl) (ih319 (i + 1) ((nuV n t (q + 1)).2) (va_up vv i (nuV n t (q + 1)).1) (jk_wI M349 21 i (nuV n t (q + 1)).1) (by omega) (by omega) (nuL_y hnu (so_n hv10 (by omega)) (nuS_3 hsp hdg (by assumption))) sm356 (Fm.mv (P := fun q k => q = 21) (Fm.w Fm.rf rfl) hmR (fun q k h z => by unfold PH at h; omega)) (fun k hk => by
          by_cases e : k = i
          · rw [e, rd_s, va_up_self]
          · rw [rd_k e, va_up_ne _ _ e, Fm.rd h0R (by unfold PQr; omega)]; first | exact htl k (by omega) | exact (rd_o (by decide)).trans (htl k (by omega))) (Or.inr ⟨by omega, (rd_o (by decide)).trans h31⟩) (nuS_in (nuS_3 hsp hdg (by assumption))).2.2.2)
                          · refine j_aload_n 1 dX11_item_162 rfl ?_
                            refine j_iload_n 0 dX11_item_163 rfl ?_
                            refine j_callV (kc := 0) (ks := 0) (a := 0) (b := 0) (d' := d) (As := [.int (nI (q + 1))]) dX11_item_164 kX11_209 rfl (shM (Fm.M sm353 hM) sgM_0) (by omega) rfl rfl rfl (Nat.le_of_ble_eq_true rfl) (Nat.le_of_ble_eq_true rfl) (T_X11_wrong (Fm.M sm353 hM) (nI (q + 1))) (kk_p ?_)
                            have sm357 : Fm PIt M (jk_wI M349 0 34 (nI (q + 1))) := Fm.w sm353 (by unfold PIt PH PQr; omega)
                            refine j_zret dX11_item_167 rfl rfl ?_
                            have hf : nuL S n t v (p + jk_sL.getD v 0) 3 = .inl (q + 1) := nu_stop (by omega) (nuL_n hnu (so_n hv10 (by omega)) (nuS_2 hsp hdg (by assumption)))
                            exact hQ _ _ (Or.inr ⟨rfl, q + 1, itS_2 hwd hr3 hf, sm357, rd_s⟩)
                        · exact absurd c354 (by decide)
                      · obtain ⟨hdg, h0R, h34⟩ := hM352
                        have sm358 : Fm PIt M M351 := Fm.tr hs1 (Fm.mo h0R PQr_I)
                        refine j_if_ne (tgt := 153) dX11_item_148 rfl (fun c359 => ?_) (fun c359 => ?_)
                        · exact absurd c359 (by decide)
                        · refine j_iconst 0 dX11_item_151 ic_0 ?_
                          refine j_zret dX11_item_152 rfl rfl ?_
                          have hf : nuL S n t v (p + jk_sL.getD v 0) 3 = .inl (q + 1) := nu_stop (by omega) (nuL_n hnu (so_n hv10 (by omega)) (nuS_1 hsp hdg))
                          exact hQ _ _ (Or.inr ⟨rfl, q + 1, itS_2 hwd hr3 hf, sm358, h34⟩)
                    · refine j_aload_n 0 dX11_item_89 rfl ?_
                      refine j_getv (nI q) dX11_item_90 fX11_193 (shM (Fm.M hs1 hM) sgM_0) rfl (hpl.resolve_left (fun z => by omega)).2 ?_
                      refine j_aload_n 0 dX11_item_93 rfl ?_
                      refine j_getv (nI n) dX11_item_94 fX11_196 (shM (Fm.M hs1 hM) sgM_0) rfl (RX.it rx hs1).2.2.2.1 ?_
                      refine j_icmp_geN (tgt := 120) q n dX11_item_97 rfl (by omega) (by omega) (fun c360 => ?_) (fun c360 => ?_)
                      · refine j_aload_n 0 dX11_item_120 rfl ?_
                        refine j_aload_n 0 dX11_item_121 rfl ?_
                        refine j_getv (nI q) dX11_item_122 fX11_193 (shM (Fm.M hs1 hM) sgM_0) rfl (hpl.resolve_left (fun z => by omega)).2 ?_
                        refine j_callV (kc := 0) (ks := 0) (a := 0) (b := 0) (d' := d) (As := [.int (nI q)]) dX11_item_125 kX11_209 rfl (shM (Fm.M hs1 hM) sgM_0) (by omega) rfl rfl rfl (Nat.le_of_ble_eq_true rfl) (Nat.le_of_ble_eq_true rfl) (T_X11_wrong (Fm.M hs1 hM) (nI q)) (kk_p ?_)
                        have sm361 : Fm PIt M (jk_wI M1 0 34 (nI q)) := Fm.w hs1 (by unfold PIt PH PQr; omega)
                        refine j_zret dX11_item_128 rfl rfl ?_
                        have hf : nuL S n t v (p + jk_sL.getD v 0) 3 = .inl q := nu_stop (by omega) (nuL_n hnu (so_n hv10 (by omega)) (nuS_0 (fun z => by have z1 := z.1; have z2 := z.2; first | omega | exact absurd z2 (by assumption))))
                        exact hQ _ _ (Or.inr ⟨rfl, q, itS_2 hwd hr3 hf, sm361, rd_s⟩)
                      · refine j_aload_n 0 dX11_item_100 rfl ?_
                        refine j_getr (q := 17) dX11_item_101 fX11_74 (shM (Fm.M hs1 hM) sgM_0) rfl (rfM (Fm.M hs1 hM) rfM_0_25) ?_
                        refine j_aload_n 0 dX11_item_104 rfl ?_
                        refine j_getv (nI b) dX11_item_105 fX11_199 (shM (Fm.M hs1 hM) sgM_0) rfl (RX.it rx hs1).2.2.1 ?_
                        refine j_aload_n 0 dX11_item_108 rfl ?_
                        refine j_getv (nI q) dX11_item_109 fX11_193 (shM (Fm.M hs1 hM) sgM_0) rfl (hpl.resolve_left (fun z => by omega)).2 ?_
                        refine j_iaddN b q dX11_item_112 ?_
                        refine j_laldN (b + q) dX11_item_113 (shM (Fm.M hs1 hM) sgM_17) (by omega) (by omega) ?_
                        refine j_l2i dX11_item_114 ?_
                        refine j_topi (t q) ((RX.it rx hs1).2.2.2.2.1 _ (by omega)) ?_
                        refine j_bipush 32 dX11_item_115 bp_32 ?_
                        refine j_icmp_eq (tgt := 129) dX11_item_117 rfl (fun c362 => ?_) (fun c362 => ?_)
                        · refine j_aload_n 0 dX11_item_129 rfl ?_
                          refine j_dup dX11_item_130 rfl ?_
                          refine j_getv (nI q) dX11_item_131 fX11_193 (shM (Fm.M hs1 hM) sgM_0) rfl (hpl.resolve_left (fun z => by omega)).2 ?_
                          refine j_iconst 1 dX11_item_134 ic_1 ?_
                          refine j_iaddN q 1 dX11_item_135 ?_
                          refine j_put dX11_item_136 fX11_193 (shM (Fm.M hs1 hM) sgM_0) rfl ?_
                          have sm363 : Fm PIt M (jk_wI M1 0 31 (nI (q + 1))) := Fm.w hs1 (by unfold PIt PH PQr; omega)
                          refine j_aload_n 0 dX11_item_139 rfl ?_
                          refine j_getv (nI (q + 1)) dX11_item_140 fX11_193 (shM (Fm.M sm363 hM) sgM_0) rfl rd_s ?_
                          refine j_istore_n (L' := [(3, .int (nI (q + 1))), (0, .ref 0), (1, .int (nI v)), (2, .int (nI i))]) dX11_item_143 (by decide) rfl ?_
                          have hmB : mv (jk_wI M1 0 31 (nI (q + 1))).2.1 = S := (Fm.mv (P := PQr) (Fm.w Fm.rf (by unfold PQr; omega)) hm1 (fun q k h => by unfold PH at h; unfold PQr; omega))
                          have hp1 : (jk_wI M1 0 31 (nI (q + 1))).2.1 0 31 = nI (q + 1) := rd_s
                          have hsp : q < n ∧ t q = 32 := by first | exact ⟨by omega, by assumption⟩ | exact (hpl.resolve_right (fun z => by omega)).2.2
                          refine j_aload_n 1 dX11_item_144 rfl ?_
                          refine j_callV (kc := 0) (ks := 0) (a := 0) (b := 0) (d' := (d + 1)) (As := []) dX11_item_145 kX11_219 rfl (shM (Fm.M sm363 hM) sgM_0) (by omega) rfl rfl rfl (Nat.le_of_ble_eq_true rfl) (Nat.le_of_ble_eq_true rfl) (T_X11_reads (Fm.M sm363 hM) (RX.it rx sm363) hp1 (by omega)) (kk_o (fun M364 hM365 => ?_) (fun M366 hM367 => ?_))
                          · obtain ⟨hdg, h0R, h33, h31⟩ := hM365
                            have sm368 : Fm PIt M M364 := Fm.tr sm363 (Fm.mo h0R PQr_I)
                            have hmR : mv M364.2.1 = S := Fm.mv h0R hmB (fun q k h => by unfold PH at h; unfold PQr; omega)
                            refine j_if_ne (tgt := 153) dX11_item_148 rfl (fun c369 => ?_) (fun c369 => ?_)
                            · refine j_aload_n 1 dX11_item_153 rfl ?_
                              refine j_iload_n 2 dX11_item_154 rfl ?_
                              refine j_iload_n 3 dX11_item_155 rfl ?_
                              refine j_callV (kc := 0) (ks := 0) (a := 0) (b := 0) (d' := (d + 2)) (As := [.int (nI v), .int (nI i)]) dX11_item_156 kX11_222 rfl (shM (Fm.M sm368 hM) sgM_0) (by omega) rfl rfl rfl (Nat.le_of_ble_eq_true rfl) (Nat.le_of_ble_eq_true rfl) (T_X11_isSo (Fm.M sm368 hM) hmR ok (nuV_pos hdg) h33 (w := v) (i := i) hv10 (by omega)) (kk_p ?_)
                              refine j_if_neB (p := (mayS S (soN v i) (nuV n t (q + 1)).1)) (tgt := 168) dX11_item_159 rfl (fun c370 => ?_) (fun c370 => ?_)
                              · refine j_aload_n 1 dX11_item_168 rfl ?_
                                refine j_getr (q := 21) dX11_item_169 fX11_87 (shM (Fm.M sm368 hM) sgM_0) rfl (rfM (Fm.M sm368 hM) rfM_0_29) ?_
                                refine j_iload_n 3 dX11_item_172 rfl ?_
                                refine j_aload_n 1 dX11_item_173 rfl ?_
                                refine j_getv (nuV n t (q + 1)).1 dX11_item_174 fX11_202 (shM (Fm.M sm368 hM) sgM_0) rfl h33 ?_
                                refine j_iastN i dX11_item_177 (shM (Fm.M sm368 hM) sgM_21) (by omega) (by omega) ?_
                                have sm371 : Fm PIt M (jk_wI M364 21 i (nuV n t (q + 1)).1) := Fm.w sm368 (by unfold PIt PH PQr; omega)
                                refine j_iinc 3 (nI (i + 1)) (L' := [(2, .int (nI (i + 1))), (3, .int (nI (q + 1))), (0, .ref 0), (1, .int (nI v))]) dX11_item_178 rfl (inc1 i) (by decide) rfl ?_
                                refine j_goto (tgt := 75) dX11_item_181 rfl ?_
                                exact j_sub (jk_pick [2, 3, 0] rfl) (ih319 (i + 1) ((nuV n t (q + 1)).2) (va_up vv i (nuV n t (q + 1)).1) (jk_wI M364 21 i (nuV n t (q + 1)).1) (by omega) (by omega) (nuL_y hnu (so_n hv10 (by omega)) (nuS_3 hsp hdg (by assumption))) sm371 (Fm.mv (P := fun q k => q = 21) (Fm.w Fm.rf rfl) hmR (fun q k h z => by unfold PH at h; omega)) (fun k hk => by
          by_cases e : k = i
          · rw [e, rd_s, va_up_self]
          · rw [rd_k e, va_up_ne _ _ e, Fm.rd h0R (by unfold PQr; omega)]; first | exact htl k (by omega) | exact (rd_o (by decide)).trans (htl k (by omega))) (Or.inr ⟨by omega, (rd_o (by decide)).trans h31⟩) (nuS_in (nuS_3 hsp hdg (by assumption))).2.2.2)
                              · refine j_aload_n 1 dX11_item_162 rfl ?_
                                refine j_iload_n 0 dX11_item_163 rfl ?_
                                refine j_callV (kc := 0) (ks := 0) (a := 0) (b := 0) (d' := d) (As := [.int (nI (q + 1))]) dX11_item_164 kX11_209 rfl (shM (Fm.M sm368 hM) sgM_0) (by omega) rfl rfl rfl (Nat.le_of_ble_eq_true rfl) (Nat.le_of_ble_eq_true rfl) (T_X11_wrong (Fm.M sm368 hM) (nI (q + 1))) (kk_p ?_)
                                have sm372 : Fm PIt M (jk_wI M364 0 34 (nI (q + 1))) := Fm.w sm368 (by unfold PIt PH PQr; omega)
                                refine j_zret dX11_item_167 rfl rfl ?_
                                have hf : nuL S n t v (p + jk_sL.getD v 0) 3 = .inl (q + 1) := nu_stop (by omega) (nuL_n hnu (so_n hv10 (by omega)) (nuS_2 hsp hdg (by assumption)))
                                exact hQ _ _ (Or.inr ⟨rfl, q + 1, itS_2 hwd hr3 hf, sm372, rd_s⟩)
                            · exact absurd c369 (by decide)
                          · obtain ⟨hdg, h0R, h34⟩ := hM367
                            have sm373 : Fm PIt M M366 := Fm.tr sm363 (Fm.mo h0R PQr_I)
                            refine j_if_ne (tgt := 153) dX11_item_148 rfl (fun c374 => ?_) (fun c374 => ?_)
                            · exact absurd c374 (by decide)
                            · refine j_iconst 0 dX11_item_151 ic_0 ?_
                              refine j_zret dX11_item_152 rfl rfl ?_
                              have hf : nuL S n t v (p + jk_sL.getD v 0) 3 = .inl (q + 1) := nu_stop (by omega) (nuL_n hnu (so_n hv10 (by omega)) (nuS_1 hsp hdg))
                              exact hQ _ _ (Or.inr ⟨rfl, q + 1, itS_2 hwd hr3 hf, sm373, h34⟩)
                        · refine j_aload_n 0 dX11_item_120 rfl ?_
                          refine j_aload_n 0 dX11_item_121 rfl ?_
                          refine j_getv (nI q) dX11_item_122 fX11_193 (shM (Fm.M hs1 hM) sgM_0) rfl (hpl.resolve_left (fun z => by omega)).2 ?_
                          refine j_callV (kc := 0) (ks := 0) (a := 0) (b := 0) (d' := d) (As := [.int (nI q)]) dX11_item_125 kX11_209 rfl (shM (Fm.M hs1 hM) sgM_0) (by omega) rfl rfl rfl (Nat.le_of_ble_eq_true rfl) (Nat.le_of_ble_eq_true rfl) (T_X11_wrong (Fm.M hs1 hM) (nI q)) (kk_p ?_)
                          have sm375 : Fm PIt M (jk_wI M1 0 34 (nI q)) := Fm.w hs1 (by unfold PIt PH PQr; omega)
                          refine j_zret dX11_item_128 rfl rfl ?_
                          have hf : nuL S n t v (p + jk_sL.getD v 0) 3 = .inl q := nu_stop (by omega) (nuL_n hnu (so_n hv10 (by omega)) (nuS_0 (fun z => by have z1 := z.1; have z2 := z.2; first | omega | exact absurd z2 (by assumption))))
                          exact hQ _ _ (Or.inr ⟨rfl, q, itS_2 hwd hr3 hf, sm375, rd_s⟩)
              exact j_sub (jk_pick [2, 1, 0] rfl) (lp320 _ 0 (p + jk_sL.getD v 0) (fun _ => 0) (jk_wI M 0 31 (nI (p + jk_sL.getD v 0 + 1))) (Nat.lt_succ_self _) (Nat.zero_le _) rfl sm316 hmW (fun k hk => absurd hk (Nat.not_lt_zero k)) (Or.inl ⟨rfl, rd_s, hspc⟩) (by omega))
            · exact absurd c317 (nI_n1 (by omega))
          · refine j_aload_n 0 dX11_item_52 rfl ?_
            refine j_aload_n 0 dX11_item_53 rfl ?_
            refine j_getv (nI p) dX11_item_54 fX11_193 (shM hM sgM_0) rfl hp ?_
            refine j_callV (kc := 0) (ks := 0) (a := 0) (b := 0) (d' := d) (As := [.int (nI p)]) dX11_item_57 kX11_209 rfl (shM hM sgM_0) (by omega) rfl rfl rfl (Nat.le_of_ble_eq_true rfl) (Nat.le_of_ble_eq_true rfl) (T_X11_wrong hM (nI p)) (kk_p ?_)
            have sm376 : Fm PIt M (jk_wI M 0 34 (nI p)) := Fm.w Fm.rf (by unfold PIt PH PQr; omega)
            refine j_zret dX11_item_60 rfl rfl ?_
            exact hQ _ _ (Or.inr ⟨rfl, p, itS_1 (wd_of (w := 6) (by decide) (by assumption)) (fun z => by have q := z.2.2 rfl; omega), sm376, rd_s⟩)
      · refine j_aload_n 0 dX11_item_25 rfl ?_
        refine j_getv (nI (nN S)) dX11_item_26 fX11_144 (shM hM sgM_0) rfl ((mr_N hS).trans (Sok.N ok).1) ?_
        refine j_bipush 8 dX11_item_29 bp_8 ?_
        refine j_icmp_eqN (tgt := 52) (nN S) 8 dX11_item_31 rfl (by omega) (by omega) (fun c377 => ?_) (fun c377 => ?_)
        · refine j_aload_n 0 dX11_item_52 rfl ?_
          refine j_aload_n 0 dX11_item_53 rfl ?_
          refine j_getv (nI p) dX11_item_54 fX11_193 (shM hM sgM_0) rfl hp ?_
          refine j_callV (kc := 0) (ks := 0) (a := 0) (b := 0) (d' := d) (As := [.int (nI p)]) dX11_item_57 kX11_209 rfl (shM hM sgM_0) (by omega) rfl rfl rfl (Nat.le_of_ble_eq_true rfl) (Nat.le_of_ble_eq_true rfl) (T_X11_wrong hM (nI p)) (kk_p ?_)
          have sm378 : Fm PIt M (jk_wI M 0 34 (nI p)) := Fm.w Fm.rf (by unfold PIt PH PQr; omega)
          refine j_zret dX11_item_60 rfl rfl ?_
          exact hQ _ _ (Or.inr ⟨rfl, p, itS_1 (wd_of (w := 5) (by decide) (by assumption)) (fun z => by have q := z.2.1 rfl; omega), sm378, rd_s⟩)
        · refine j_aload_n 0 dX11_item_34 rfl ?_
          refine j_bipush 6 dX11_item_35 bp_6 ?_
          refine j_callV (kc := 0) (ks := 0) (a := 0) (b := 0) (d' := d) (As := [.int 6]) dX11_item_37 kX11_212 rfl (shM hM sgM_0) (by omega) rfl rfl rfl (Nat.le_of_ble_eq_true rfl) (Nat.le_of_ble_eq_true rfl) (T_X11_stands hM rx hp (by omega) (w := 6) (by decide)) (kk_p ?_)
          refine j_if_eqB (p := (mt n t p 6 = jk_sL.getD 6 0)) (tgt := 61) dX11_item_40 rfl (fun c379 => ?_) (fun c379 => ?_)
          · have hroom : ∀ w, wdN n t p 10 = some w → roomS S w := fun w hw => ⟨(fun e => by first | omega | exact absurd (show mt n t p 1 = jk_sL.getD 1 0 by have q := (wd_lt 10 hw).2; rw [e] at q; exact q) (by assumption)), (fun e => by first | omega | exact absurd (show mt n t p 5 = jk_sL.getD 5 0 by have q := (wd_lt 10 hw).2; rw [e] at q; exact q) (by assumption)), (fun e => by first | omega | exact absurd (show mt n t p 6 = jk_sL.getD 6 0 by have q := (wd_lt 10 hw).2; rw [e] at q; exact q) (by assumption))⟩
            refine j_aload_n 0 dX11_item_61 rfl ?_
            refine j_callV (kc := 0) (ks := 0) (a := 0) (b := 0) (d' := d) (As := []) dX11_item_62 kX11_215 rfl (shM hM sgM_0) (by omega) rfl rfl rfl (Nat.le_of_ble_eq_true rfl) (Nat.le_of_ble_eq_true rfl) (T_wordS hM rx hp (by omega) v hv) (kk_p ?_)
            have sm380 : Fm PIt M (jk_wI M 0 31 (nI (p + jk_sL.getD v 0 + 1))) := Fm.w Fm.rf (by unfold PIt PH PQr; omega)
            refine j_istore_n (L' := [(1, .int (nI v)), (0, .ref 0)]) dX11_item_65 (by decide) rfl ?_
            have hr3 := hroom v hwd
            have hl9 := sL9 v hv10
            obtain ⟨-, hnb3, hnb1, -⟩ := nb_T v hv10
            have hmW : mv (jk_wI M 0 31 (nI (p + jk_sL.getD v 0 + 1))).2.1 = S := Fm.mv (P := PQr) (Fm.w Fm.rf (by unfold PQr; omega)) hS (fun q k h => by unfold PH at h; unfold PQr; omega)
            refine j_iload_n 0 dX11_item_66 rfl ?_
            refine j_iconst (-1) dX11_item_67 ic_n1 ?_
            refine j_icmp_ne (tgt := 73) dX11_item_68 rfl (fun c381 => ?_) (fun c381 => ?_)
            · refine j_iconst 0 dX11_item_73 ic_0 ?_
              refine j_istore_n (L' := [(2, .int 0), (1, .int (nI v)), (0, .ref 0)]) dX11_item_74 (by decide) rfl ?_
              have lp384 : ∀ (k382 : Nat) (i : Nat) (q : Nat) (vv : Nat → Int32) (M1 : jk_M), nbN v - i < k382 → (i ≤ nbN v) → (nuL S n t v (p + jk_sL.getD v 0) i = .inr (q, vv)) → (Fm PIt M M1) → (mv M1.2.1 = S) → (∀ k, k < i → M1.2.1 21 k = vv k) → ((i = 0 ∧ M1.2.1 0 31 = nI (q + 1) ∧ q < n ∧ t q = 32) ∨ (0 < i ∧ M1.2.1 0 31 = nI q)) → (q ≤ n) → J Fr_X11_item (d + 3) 0 0 75 [(0, .ref 0), (1, .int (nI v)), (2, .int (nI i))] [] M1 Q := by
                intro k382
                induction k382 with
                | zero => intro i q vv M1 hk; exact absurd hk (Nat.not_lt_zero _)
                | succ k382 ih383 =>
                  intro i q vv M1 hk382 hi hnu hs1 hm1 htl hpl hqn
                  refine j_iload_n 2 dX11_item_75 rfl ?_
                  refine j_aload_n 0 dX11_item_76 rfl ?_
                  refine j_getr (q := 20) dX11_item_77 fX11_84 (shM (Fm.M hs1 hM) sgM_0) rfl (rfM (Fm.M hs1 hM) rfM_0_28) ?_
                  refine j_iload_n 1 dX11_item_80 rfl ?_
                  refine j_ialdN v dX11_item_81 (shM (Fm.M hs1 hM) sgM_20) (by omega) (by omega) ?_
                  refine j_topi (nI (nbN v)) (((RX.it rx hs1).2.2.2.2.2.2 _ (by omega)).trans (nb_T v hv10).1) ?_
                  refine j_icmp_geN (tgt := 184) i (nbN v) dX11_item_82 rfl (by omega) (by omega) (fun c385 => ?_) (fun c385 => ?_)
                  · have ei : i = nbN v := by omega
                    have hn3 := nu_end hv10 (by rw [← ei]; exact hnu)
                    have hmay := (nuL_may 3 _ _ hn3).1
                    have h31b : M1.2.1 0 31 = nI q := (hpl.resolve_left (fun z => by omega)).2
                    refine j_iload_n 1 dX11_item_184 rfl ?_
                    by_cases c387 : (nI v) = 0
                    · refine j_tableIn (tgt := 240) dX11_item_185 (by rw [c387]; decide) (by rw [c387]; decide) (off := 55) (by rw [c387]; decide) rfl ?_
                      have hvk : v = 0 := (nI_eq (by omega) (by omega)).mp (c387 : nI v = nI 0)
                      have hnbk : nbN v = 1 := by rw [hvk]; rfl
                      refine j_aload_n 0 dX11_item_240 rfl ?_
                      refine j_aload_n 0 dX11_item_241 rfl ?_
                      refine j_getr (q := 21) dX11_item_242 fX11_87 (shM (Fm.M hs1 hM) sgM_0) rfl (rfM (Fm.M hs1 hM) rfM_0_29) ?_
                      refine j_iconst 0 dX11_item_245 ic_0 ?_
                      refine j_ialdN 0 dX11_item_246 (shM (Fm.M hs1 hM) sgM_21) (by omega) (by omega) ?_
                      refine j_topi (vv 0) (htl _ (by omega)) ?_
                      refine j_put dX11_item_247 fX11_7 (shM (Fm.M hs1 hM) sgM_0) rfl ?_
                      have sm388 : Fm PIt M (jk_wI M1 0 3 (vv 0)) := Fm.w hs1 (by unfold PIt PH PQr; omega)
                      refine j_goto (tgt := 409) dX11_item_250 rfl ?_
                      refine j_iconst 1 dX11_item_409 ic_1 ?_
                      refine j_zret dX11_item_410 rfl rfl ?_
                      have hmv : mv (jk_wI M1 0 3 (vv 0)).2.1 = apS S v (vv 0) (vv 1) (vv 2) := by
                        rw [hvk]
                        exact mv_sc (a := 0) hm1 (by decide) (by decide) (by decide) (by decide)
                      have h31e : (jk_wI M1 0 3 (vv 0)).2.1 0 31 = nI q := (rd_p (by omega)).trans h31b
                      exact hQ _ _ (Or.inl ⟨rfl, _, q, itS_3 hwd hr3 hn3, sm388, hmv, h31e⟩)
                    by_cases c389 : (nI v) = 1
                    · refine j_tableIn (tgt := 253) dX11_item_185 (by rw [c389]; decide) (by rw [c389]; decide) (off := 68) (by rw [c389]; decide) rfl ?_
                      have hvk : v = 1 := (nI_eq (by omega) (by omega)).mp (c389 : nI v = nI 1)
                      have hnbk : nbN v = 3 := by rw [hvk]; rfl
                      obtain ⟨hr1, hr5, hr6⟩ := hr3
                      have hlt := hr1 hvk
                      have hr3 : roomS S v := ⟨hr1, hr5, hr6⟩
                      refine j_aload_n 0 dX11_item_253 rfl ?_
                      refine j_aload_n 0 dX11_item_254 rfl ?_
                      refine j_getr (q := 21) dX11_item_255 fX11_87 (shM (Fm.M hs1 hM) sgM_0) rfl (rfM (Fm.M hs1 hM) rfM_0_29) ?_
                      refine j_iconst 0 dX11_item_258 ic_0 ?_
                      refine j_ialdN 0 dX11_item_259 (shM (Fm.M hs1 hM) sgM_21) (by omega) (by omega) ?_
                      refine j_topi (vv 0) (htl _ (by omega)) ?_
                      refine j_aload_n 0 dX11_item_260 rfl ?_
                      refine j_getr (q := 21) dX11_item_261 fX11_87 (shM (Fm.M hs1 hM) sgM_0) rfl (rfM (Fm.M hs1 hM) rfM_0_29) ?_
                      refine j_iconst 1 dX11_item_264 ic_1 ?_
                      refine j_ialdN 1 dX11_item_265 (shM (Fm.M hs1 hM) sgM_21) (by omega) (by omega) ?_
                      refine j_topi (vv 1) (htl _ (by omega)) ?_
                      refine j_aload_n 0 dX11_item_266 rfl ?_
                      refine j_getr (q := 21) dX11_item_267 fX11_87 (shM (Fm.M hs1 hM) sgM_0) rfl (rfM (Fm.M hs1 hM) rfM_0_29) ?_
                      refine j_iconst 2 dX11_item_270 ic_2 ?_
                      refine j_ialdN 2 dX11_item_271 (shM (Fm.M hs1 hM) sgM_21) (by omega) (by omega) ?_
                      refine j_topi (vv 2) (htl _ (by omega)) ?_
                      refine j_callV (kc := 0) (ks := 0) (a := 0) (b := 0) (d' := d) (As := [.int (vv 0), .int (vv 1), .int (vv 2)]) dX11_item_272 kX11_157 rfl (shM (Fm.M hs1 hM) sgM_0) (by omega) rfl rfl rfl (Nat.le_of_ble_eq_true rfl) (Nat.le_of_ble_eq_true rfl) (T_X11_addsThing (Fm.M hs1 hM) hm1 ok (vv 0) (vv 1) (vv 2) hlt) (kk_e (fun M390 hM391 => ?_))
                      obtain ⟨h0A, hvA⟩ := hM391
                      have smA : Fm PIt M M390 := Fm.tr hs1 (Fm.mo h0A PA_I)
                      refine j_pop dX11_item_275 rfl ?_
                      refine j_goto (tgt := 409) dX11_item_276 rfl ?_
                      refine j_iconst 1 dX11_item_409 ic_1 ?_
                      refine j_zret dX11_item_410 rfl rfl ?_
                      have hmv : mv M390.2.1 = apS S v (vv 0) (vv 1) (vv 2) := by
                        rw [hvk]
                        exact hvA
                      have h31e : M390.2.1 0 31 = nI q := (Fm.rd h0A (by unfold PA; omega)).trans h31b
                      exact hQ _ _ (Or.inl ⟨rfl, _, q, itS_3 hwd hr3 hn3, smA, hmv, h31e⟩)
                    by_cases c392 : (nI v) = 2
                    · refine j_tableIn (tgt := 279) dX11_item_185 (by rw [c392]; decide) (by rw [c392]; decide) (off := 94) (by rw [c392]; decide) rfl ?_
                      have hvk : v = 2 := (nI_eq (by omega) (by omega)).mp (c392 : nI v = nI 2)
                      have hnbk : nbN v = 2 := by rw [hvk]; rfl
                      have hm0 : mayS S 4 (vv 0) := by have q := hmay 0 (by omega) (by rw [hvk]; decide); rw [hvk] at q; exact q
                      rw [may_4] at hm0
                      obtain ⟨j0, hj0, ej0⟩ := in2 hm0
                      refine j_aload_n 0 dX11_item_279 rfl ?_
                      refine j_getr (q := 12) dX11_item_280 fX11_59 (shM (Fm.M hs1 hM) sgM_0) rfl (rfM (Fm.M hs1 hM) rfM_0_20) ?_
                      refine j_aload_n 0 dX11_item_283 rfl ?_
                      refine j_getr (q := 21) dX11_item_284 fX11_87 (shM (Fm.M hs1 hM) sgM_0) rfl (rfM (Fm.M hs1 hM) rfM_0_29) ?_
                      refine j_iconst 0 dX11_item_287 ic_0 ?_
                      refine j_ialdN 0 dX11_item_288 (shM (Fm.M hs1 hM) sgM_21) (by omega) (by omega) ?_
                      refine j_topi (nI j0) ((htl 0 (by omega)).trans ej0) ?_
                      refine j_aload_n 0 dX11_item_289 rfl ?_
                      refine j_getr (q := 21) dX11_item_290 fX11_87 (shM (Fm.M hs1 hM) sgM_0) rfl (rfM (Fm.M hs1 hM) rfM_0_29) ?_
                      refine j_iconst 1 dX11_item_293 ic_1 ?_
                      refine j_ialdN 1 dX11_item_294 (shM (Fm.M hs1 hM) sgM_21) (by omega) (by omega) ?_
                      refine j_topi (vv 1) (htl _ (by omega)) ?_
                      refine j_iastN j0 dX11_item_295 (shM (Fm.M hs1 hM) sgM_12) (by omega) (by omega) ?_
                      have sm393 : Fm PIt M (jk_wI M1 12 j0 (vv 1)) := Fm.w hs1 (by unfold PIt PH PQr; omega)
                      refine j_goto (tgt := 409) dX11_item_296 rfl ?_
                      refine j_iconst 1 dX11_item_409 ic_1 ?_
                      refine j_zret dX11_item_410 rfl rfl ?_
                      have hmv : mv (jk_wI M1 12 j0 (vv 1)).2.1 = apS S v (vv 0) (vv 1) (vv 2) := by
                        rw [hvk]
                        refine (show mv (jk_wI M1 12 j0 (vv 1)).2.1 = if vv 0 = 0 then upS S 5 0 (vv 1) else upS S 6 0 (vv 1) from ?_)
                        rcases (show j0 = 0 ∨ j0 = 1 by omega) with e | e
                        · subst e; rw [if_pos (show vv 0 = 0 from ej0)]; exact mv_sc (a := 5) hm1 (by decide) (by decide) (by decide) (by decide)
                        · subst e; rw [if_neg (by rw [ej0]; decide)]; exact mv_sc (a := 6) hm1 (by decide) (by decide) (by decide) (by decide)
                      have h31e : (jk_wI M1 12 j0 (vv 1)).2.1 0 31 = nI q := (rd_p (by omega)).trans h31b
                      exact hQ _ _ (Or.inl ⟨rfl, _, q, itS_3 hwd hr3 hn3, sm393, hmv, h31e⟩)
                    by_cases c394 : (nI v) = 3
                    · refine j_tableIn (tgt := 299) dX11_item_185 (by rw [c394]; decide) (by rw [c394]; decide) (off := 114) (by rw [c394]; decide) rfl ?_
                      have hvk : v = 3 := (nI_eq (by omega) (by omega)).mp (c394 : nI v = nI 3)
                      have hnbk : nbN v = 1 := by rw [hvk]; rfl
                      refine j_aload_n 0 dX11_item_299 rfl ?_
                      refine j_iconst 0 dX11_item_300 ic_0 ?_
                      refine j_aload_n 0 dX11_item_301 rfl ?_
                      refine j_getr (q := 21) dX11_item_302 fX11_87 (shM (Fm.M hs1 hM) sgM_0) rfl (rfM (Fm.M hs1 hM) rfM_0_29) ?_
                      refine j_iconst 0 dX11_item_305 ic_0 ?_
                      refine j_ialdN 0 dX11_item_306 (shM (Fm.M hs1 hM) sgM_21) (by omega) (by omega) ?_
                      refine j_topi (vv 0) (htl _ (by omega)) ?_
                      refine j_callV (kc := 0) (ks := 0) (a := 0) (b := 0) (d' := d) (As := [.int 0, .int (vv 0)]) dX11_item_307 kX11_177 rfl (shM (Fm.M hs1 hM) sgM_0) (by omega) rfl rfl rfl (Nat.le_of_ble_eq_true rfl) (Nat.le_of_ble_eq_true rfl) (T_tells0 (Fm.M hs1 hM) (vv 0)) (kk_pv ?_)
                      have sm395 : Fm PIt M (jk_wI M1 0 4 (vv 0)) := Fm.w hs1 (by unfold PIt PH PQr; omega)
                      refine j_goto (tgt := 409) dX11_item_310 rfl ?_
                      refine j_iconst 1 dX11_item_409 ic_1 ?_
                      refine j_zret dX11_item_410 rfl rfl ?_
                      have hmv : mv (jk_wI M1 0 4 (vv 0)).2.1 = apS S v (vv 0) (vv 1) (vv 2) := by
                        rw [hvk]
                        exact mv_sc (a := 1) hm1 (by decide) (by decide) (by decide) (by decide)
                      have h31e : (jk_wI M1 0 4 (vv 0)).2.1 0 31 = nI q := (rd_p (by omega)).trans h31b
                      exact hQ _ _ (Or.inl ⟨rfl, _, q, itS_3 hwd hr3 hn3, sm395, hmv, h31e⟩)
                    by_cases c396 : (nI v) = 4
                    · refine j_tableIn (tgt := 313) dX11_item_185 (by rw [c396]; decide) (by rw [c396]; decide) (off := 128) (by rw [c396]; decide) rfl ?_
                      have hvk : v = 4 := (nI_eq (by omega) (by omega)).mp (c396 : nI v = nI 4)
                      have hnbk : nbN v = 1 := by rw [hvk]; rfl
                      refine j_aload_n 0 dX11_item_313 rfl ?_
                      refine j_iconst 1 dX11_item_314 ic_1 ?_
                      refine j_aload_n 0 dX11_item_315 rfl ?_
                      refine j_getr (q := 21) dX11_item_316 fX11_87 (shM (Fm.M hs1 hM) sgM_0) rfl (rfM (Fm.M hs1 hM) rfM_0_29) ?_
                      refine j_iconst 0 dX11_item_319 ic_0 ?_
                      refine j_ialdN 0 dX11_item_320 (shM (Fm.M hs1 hM) sgM_21) (by omega) (by omega) ?_
                      refine j_topi (vv 0) (htl _ (by omega)) ?_
                      refine j_callV (kc := 0) (ks := 0) (a := 0) (b := 0) (d' := d) (As := [.int 1, .int (vv 0)]) dX11_item_321 kX11_177 rfl (shM (Fm.M hs1 hM) sgM_0) (by omega) rfl rfl rfl (Nat.le_of_ble_eq_true rfl) (Nat.le_of_ble_eq_true rfl) (T_tells1 (Fm.M hs1 hM) (vv 0)) (kk_pv ?_)
                      have sm397 : Fm PIt M (jk_wI M1 0 5 (vv 0)) := Fm.w hs1 (by unfold PIt PH PQr; omega)
                      refine j_goto (tgt := 409) dX11_item_324 rfl ?_
                      refine j_iconst 1 dX11_item_409 ic_1 ?_
                      refine j_zret dX11_item_410 rfl rfl ?_
                      have hmv : mv (jk_wI M1 0 5 (vv 0)).2.1 = apS S v (vv 0) (vv 1) (vv 2) := by
                        rw [hvk]
                        exact mv_sc (a := 2) hm1 (by decide) (by decide) (by decide) (by decide)
                      have h31e : (jk_wI M1 0 5 (vv 0)).2.1 0 31 = nI q := (rd_p (by omega)).trans h31b
                      exact hQ _ _ (Or.inl ⟨rfl, _, q, itS_3 hwd hr3 hn3, sm397, hmv, h31e⟩)
                    by_cases c398 : (nI v) = 5
                    · refine j_tableIn (tgt := 327) dX11_item_185 (by rw [c398]; decide) (by rw [c398]; decide) (off := 142) (by rw [c398]; decide) rfl ?_
                      have hvk : v = 5 := (nI_eq (by omega) (by omega)).mp (c398 : nI v = nI 5)
                      have hnbk : nbN v = 2 := by rw [hvk]; rfl
                      obtain ⟨hr1, hr5, hr6⟩ := hr3
                      have hlt := hr5 hvk
                      have hr3 : roomS S v := ⟨hr1, hr5, hr6⟩
                      refine j_aload_n 0 dX11_item_327 rfl ?_
                      refine j_aload_n 0 dX11_item_328 rfl ?_
                      refine j_getr (q := 21) dX11_item_329 fX11_87 (shM (Fm.M hs1 hM) sgM_0) rfl (rfM (Fm.M hs1 hM) rfM_0_29) ?_
                      refine j_iconst 0 dX11_item_332 ic_0 ?_
                      refine j_ialdN 0 dX11_item_333 (shM (Fm.M hs1 hM) sgM_21) (by omega) (by omega) ?_
                      refine j_topi (vv 0) (htl _ (by omega)) ?_
                      refine j_aload_n 0 dX11_item_334 rfl ?_
                      refine j_getr (q := 21) dX11_item_335 fX11_87 (shM (Fm.M hs1 hM) sgM_0) rfl (rfM (Fm.M hs1 hM) rfM_0_29) ?_
                      refine j_iconst 1 dX11_item_338 ic_1 ?_
                      refine j_ialdN 1 dX11_item_339 (shM (Fm.M hs1 hM) sgM_21) (by omega) (by omega) ?_
                      refine j_topi (vv 1) (htl _ (by omega)) ?_
                      refine j_callV (kc := 0) (ks := 0) (a := 0) (b := 0) (d' := d) (As := [.int (vv 0), .int (vv 1)]) dX11_item_340 kX11_161 rfl (shM (Fm.M hs1 hM) sgM_0) (by omega) rfl rfl rfl (Nat.le_of_ble_eq_true rfl) (Nat.le_of_ble_eq_true rfl) (T_X11_addsNeighbour (Fm.M hs1 hM) hm1 ok (vv 0) (vv 1) hlt) (kk_e (fun M399 hM400 => ?_))
                      obtain ⟨h0A, hvA⟩ := hM400
                      have smA : Fm PIt M M399 := Fm.tr hs1 (Fm.mo h0A PA_I)
                      refine j_pop dX11_item_343 rfl ?_
                      refine j_goto (tgt := 409) dX11_item_344 rfl ?_
                      refine j_iconst 1 dX11_item_409 ic_1 ?_
                      refine j_zret dX11_item_410 rfl rfl ?_
                      have hmv : mv M399.2.1 = apS S v (vv 0) (vv 1) (vv 2) := by
                        rw [hvk]
                        exact hvA
                      have h31e : M399.2.1 0 31 = nI q := (Fm.rd h0A (by unfold PA; omega)).trans h31b
                      exact hQ _ _ (Or.inl ⟨rfl, _, q, itS_3 hwd hr3 hn3, smA, hmv, h31e⟩)
                    by_cases c401 : (nI v) = 6
                    · refine j_tableIn (tgt := 347) dX11_item_185 (by rw [c401]; decide) (by rw [c401]; decide) (off := 162) (by rw [c401]; decide) rfl ?_
                      have hvk : v = 6 := (nI_eq (by omega) (by omega)).mp (c401 : nI v = nI 6)
                      have hnbk : nbN v = 3 := by rw [hvk]; rfl
                      obtain ⟨hr1, hr5, hr6⟩ := hr3
                      have hlt := hr6 hvk
                      have hr3 : roomS S v := ⟨hr1, hr5, hr6⟩
                      refine j_aload_n 0 dX11_item_347 rfl ?_
                      refine j_aload_n 0 dX11_item_348 rfl ?_
                      refine j_getr (q := 21) dX11_item_349 fX11_87 (shM (Fm.M hs1 hM) sgM_0) rfl (rfM (Fm.M hs1 hM) rfM_0_29) ?_
                      refine j_iconst 0 dX11_item_352 ic_0 ?_
                      refine j_ialdN 0 dX11_item_353 (shM (Fm.M hs1 hM) sgM_21) (by omega) (by omega) ?_
                      refine j_topi (vv 0) (htl _ (by omega)) ?_
                      refine j_aload_n 0 dX11_item_354 rfl ?_
                      refine j_getr (q := 21) dX11_item_355 fX11_87 (shM (Fm.M hs1 hM) sgM_0) rfl (rfM (Fm.M hs1 hM) rfM_0_29) ?_
                      refine j_iconst 1 dX11_item_358 ic_1 ?_
                      refine j_ialdN 1 dX11_item_359 (shM (Fm.M hs1 hM) sgM_21) (by omega) (by omega) ?_
                      refine j_topi (vv 1) (htl _ (by omega)) ?_
                      refine j_aload_n 0 dX11_item_360 rfl ?_
                      refine j_getr (q := 21) dX11_item_361 fX11_87 (shM (Fm.M hs1 hM) sgM_0) rfl (rfM (Fm.M hs1 hM) rfM_0_29) ?_
                      refine j_iconst 2 dX11_item_364 ic_2 ?_
                      refine j_ialdN 2 dX11_item_365 (shM (Fm.M hs1 hM) sgM_21) (by omega) (by omega) ?_
                      refine j_topi (vv 2) (htl _ (by omega)) ?_
                      refine j_callV (kc := 0) (ks := 0) (a := 0) (b := 0) (d' := d) (As := [.int (vv 0), .int (vv 1), .int (vv 2)]) dX11_item_366 kX11_164 rfl (shM (Fm.M hs1 hM) sgM_0) (by omega) rfl rfl rfl (Nat.le_of_ble_eq_true rfl) (Nat.le_of_ble_eq_true rfl) (T_X11_addsDevice (Fm.M hs1 hM) hm1 ok (vv 0) (vv 1) (vv 2) hlt) (kk_e (fun M402 hM403 => ?_))
                      obtain ⟨h0A, hvA⟩ := hM403
                      have smA : Fm PIt M M402 := Fm.tr hs1 (Fm.mo h0A PA_I)
                      refine j_pop dX11_item_369 rfl ?_
                      refine j_goto (tgt := 409) dX11_item_370 rfl ?_
                      refine j_iconst 1 dX11_item_409 ic_1 ?_
                      refine j_zret dX11_item_410 rfl rfl ?_
                      have hmv : mv M402.2.1 = apS S v (vv 0) (vv 1) (vv 2) := by
                        rw [hvk]
                        exact hvA
                      have h31e : M402.2.1 0 31 = nI q := (Fm.rd h0A (by unfold PA; omega)).trans h31b
                      exact hQ _ _ (Or.inl ⟨rfl, _, q, itS_3 hwd hr3 hn3, smA, hmv, h31e⟩)
                    by_cases c404 : (nI v) = 7
                    · refine j_tableIn (tgt := 387) dX11_item_185 (by rw [c404]; decide) (by rw [c404]; decide) (off := 202) (by rw [c404]; decide) rfl ?_
                      have hvk : v = 7 := (nI_eq (by omega) (by omega)).mp (c404 : nI v = nI 7)
                      have hnbk : nbN v = 1 := by rw [hvk]; rfl
                      have hm0 : mayS S 10 (vv 0) := by have q := hmay 0 (by omega) (by rw [hvk]; decide); rw [hvk] at q; exact q
                      obtain ⟨j0, hj0, ej0⟩ := may10 ok hm0
                      refine j_aload_n 0 dX11_item_387 rfl ?_
                      refine j_getr (q := 5) dX11_item_388 fX11_38 (shM (Fm.M hs1 hM) sgM_0) rfl (rfM (Fm.M hs1 hM) rfM_0_13) ?_
                      refine j_aload_n 0 dX11_item_391 rfl ?_
                      refine j_getr (q := 21) dX11_item_392 fX11_87 (shM (Fm.M hs1 hM) sgM_0) rfl (rfM (Fm.M hs1 hM) rfM_0_29) ?_
                      refine j_iconst 0 dX11_item_395 ic_0 ?_
                      refine j_ialdN 0 dX11_item_396 (shM (Fm.M hs1 hM) sgM_21) (by omega) (by omega) ?_
                      refine j_topi (nI j0) ((htl 0 (by omega)).trans ej0) ?_
                      refine j_iload_n 1 dX11_item_397 rfl ?_
                      refine j_bipush 8 dX11_item_398 bp_8 ?_
                      refine j_icmp_neN (tgt := 407) v 8 dX11_item_400 rfl (by omega) (by omega) (fun c405 => ?_) (fun c405 => ?_)
                      · refine j_iconst 0 dX11_item_407 ic_0 ?_
                        refine j_iastN j0 dX11_item_408 (shM (Fm.M hs1 hM) sgM_5) (by omega) (by omega) ?_
                        have sm406 : Fm PIt M (jk_wI M1 5 j0 0) := Fm.w hs1 (by unfold PIt PH PQr; omega)
                        refine j_iconst 1 dX11_item_409 ic_1 ?_
                        refine j_zret dX11_item_410 rfl rfl ?_
                        have hmv : mv (jk_wI M1 5 j0 0).2.1 = apS S v (vv 0) (vv 1) (vv 2) := by
                          rw [hvk]
                          show mv (jk_wI M1 5 j0 0).2.1 = upS S 13 (vv 0).toNatClampNeg 0
                          rw [ej0, nI_clamp (by omega)]; exact mv_ar (a := 13) hm1 (by omega)
                        have h31e : (jk_wI M1 5 j0 0).2.1 0 31 = nI q := (rd_p (by omega)).trans h31b
                        exact hQ _ _ (Or.inl ⟨rfl, _, q, itS_3 hwd hr3 hn3, sm406, hmv, h31e⟩)
                      · exact absurd (hvk.symm.trans c405) (by decide)
                    by_cases c407 : (nI v) = 8
                    · refine j_tableIn (tgt := 387) dX11_item_185 (by rw [c407]; decide) (by rw [c407]; decide) (off := 202) (by rw [c407]; decide) rfl ?_
                      have hvk : v = 8 := (nI_eq (by omega) (by omega)).mp (c407 : nI v = nI 8)
                      have hnbk : nbN v = 1 := by rw [hvk]; rfl
                      have hm0 : mayS S 10 (vv 0) := by have q := hmay 0 (by omega) (by rw [hvk]; decide); rw [hvk] at q; exact q
                      obtain ⟨j0, hj0, ej0⟩ := may10 ok hm0
                      refine j_aload_n 0 dX11_item_387 rfl ?_
                      refine j_getr (q := 5) dX11_item_388 fX11_38 (shM (Fm.M hs1 hM) sgM_0) rfl (rfM (Fm.M hs1 hM) rfM_0_13) ?_
                      refine j_aload_n 0 dX11_item_391 rfl ?_
                      refine j_getr (q := 21) dX11_item_392 fX11_87 (shM (Fm.M hs1 hM) sgM_0) rfl (rfM (Fm.M hs1 hM) rfM_0_29) ?_
                      refine j_iconst 0 dX11_item_395 ic_0 ?_
                      refine j_ialdN 0 dX11_item_396 (shM (Fm.M hs1 hM) sgM_21) (by omega) (by omega) ?_
                      refine j_topi (nI j0) ((htl 0 (by omega)).trans ej0) ?_
                      refine j_iload_n 1 dX11_item_397 rfl ?_
                      refine j_bipush 8 dX11_item_398 bp_8 ?_
                      refine j_icmp_neN (tgt := 407) v 8 dX11_item_400 rfl (by omega) (by omega) (fun c408 => ?_) (fun c408 => ?_)
                      · exact absurd hvk c408
                      · refine j_iconst 1 dX11_item_403 ic_1 ?_
                        refine j_goto (tgt := 408) dX11_item_404 rfl ?_
                        refine j_iastN j0 dX11_item_408 (shM (Fm.M hs1 hM) sgM_5) (by omega) (by omega) ?_
                        have sm409 : Fm PIt M (jk_wI M1 5 j0 1) := Fm.w hs1 (by unfold PIt PH PQr; omega)
                        refine j_iconst 1 dX11_item_409 ic_1 ?_
                        refine j_zret dX11_item_410 rfl rfl ?_
                        have hmv : mv (jk_wI M1 5 j0 1).2.1 = apS S v (vv 0) (vv 1) (vv 2) := by
                          rw [hvk]
                          show mv (jk_wI M1 5 j0 1).2.1 = upS S 13 (vv 0).toNatClampNeg 1
                          rw [ej0, nI_clamp (by omega)]; exact mv_ar (a := 13) hm1 (by omega)
                        have h31e : (jk_wI M1 5 j0 1).2.1 0 31 = nI q := (rd_p (by omega)).trans h31b
                        exact hQ _ _ (Or.inl ⟨rfl, _, q, itS_3 hwd hr3 hn3, sm409, hmv, h31e⟩)
                    by_cases c410 : (nI v) = 9
                    · refine j_tableIn (tgt := 373) dX11_item_185 (by rw [c410]; decide) (by rw [c410]; decide) (off := 188) (by rw [c410]; decide) rfl ?_
                      have hvk : v = 9 := (nI_eq (by omega) (by omega)).mp (c410 : nI v = nI 9)
                      have hnbk : nbN v = 1 := by rw [hvk]; rfl
                      refine j_aload_n 0 dX11_item_373 rfl ?_
                      refine j_iconst 2 dX11_item_374 ic_2 ?_
                      refine j_aload_n 0 dX11_item_375 rfl ?_
                      refine j_getr (q := 21) dX11_item_376 fX11_87 (shM (Fm.M hs1 hM) sgM_0) rfl (rfM (Fm.M hs1 hM) rfM_0_29) ?_
                      refine j_iconst 0 dX11_item_379 ic_0 ?_
                      refine j_ialdN 0 dX11_item_380 (shM (Fm.M hs1 hM) sgM_21) (by omega) (by omega) ?_
                      refine j_topi (vv 0) (htl _ (by omega)) ?_
                      refine j_callV (kc := 0) (ks := 0) (a := 0) (b := 0) (d' := d) (As := [.int 2, .int (vv 0)]) dX11_item_381 kX11_177 rfl (shM (Fm.M hs1 hM) sgM_0) (by omega) rfl rfl rfl (Nat.le_of_ble_eq_true rfl) (Nat.le_of_ble_eq_true rfl) (T_tells2 (Fm.M hs1 hM) (vv 0)) (kk_pv ?_)
                      have sm411 : Fm PIt M (jk_wI M1 0 6 (vv 0)) := Fm.w hs1 (by unfold PIt PH PQr; omega)
                      refine j_goto (tgt := 409) dX11_item_384 rfl ?_
                      refine j_iconst 1 dX11_item_409 ic_1 ?_
                      refine j_zret dX11_item_410 rfl rfl ?_
                      have hmv : mv (jk_wI M1 0 6 (vv 0)).2.1 = apS S v (vv 0) (vv 1) (vv 2) := by
                        rw [hvk]
                        exact mv_sc (a := 3) hm1 (by decide) (by decide) (by decide) (by decide)
                      have h31e : (jk_wI M1 0 6 (vv 0)).2.1 0 31 = nI q := (rd_p (by omega)).trans h31b
                      exact hQ _ _ (Or.inl ⟨rfl, _, q, itS_3 hwd hr3 hn3, sm411, hmv, h31e⟩)
                    have hv10b : v = 0 ∨ v = 1 ∨ v = 2 ∨ v = 3 ∨ v = 4 ∨ v = 5 ∨ v = 6 ∨ v = 7 ∨ v = 8 ∨ v = 9 := by omega
                    exfalso
                    rcases hv10b with rfl | rfl | rfl | rfl | rfl | rfl | rfl | rfl | rfl | rfl
                    · exact c387 rfl
                    · exact c389 rfl
                    · exact c392 rfl
                    · exact c394 rfl
                    · exact c396 rfl
                    · exact c398 rfl
                    · exact c401 rfl
                    · exact c404 rfl
                    · exact c407 rfl
                    · exact c410 rfl
                  · refine j_iload_n 2 dX11_item_85 rfl ?_
                    refine j_if_leN (tgt := 139) i dX11_item_86 (by omega) rfl (fun c412 => ?_) (fun c412 => ?_)
                    · refine j_aload_n 0 dX11_item_139 rfl ?_
                      refine j_getv (nI (q + 1)) dX11_item_140 fX11_193 (shM (Fm.M hs1 hM) sgM_0) rfl (hpl.resolve_right (fun z => by omega)).2.1 ?_
                      refine j_istore_n (L' := [(3, .int (nI (q + 1))), (0, .ref 0), (1, .int (nI v)), (2, .int (nI i))]) dX11_item_143 (by decide) rfl ?_
                      have hmB : mv M1.2.1 = S := hm1
                      have hp1 : M1.2.1 0 31 = nI (q + 1) := (hpl.resolve_right (fun z => by omega)).2.1
                      have hsp : q < n ∧ t q = 32 := by first | exact ⟨by omega, by assumption⟩ | exact (hpl.resolve_right (fun z => by omega)).2.2
                      refine j_aload_n 1 dX11_item_144 rfl ?_
                      refine j_callV (kc := 0) (ks := 0) (a := 0) (b := 0) (d' := (d + 1)) (As := []) dX11_item_145 kX11_219 rfl (shM (Fm.M hs1 hM) sgM_0) (by omega) rfl rfl rfl (Nat.le_of_ble_eq_true rfl) (Nat.le_of_ble_eq_true rfl) (T_X11_reads (Fm.M hs1 hM) (RX.it rx hs1) hp1 (by omega)) (kk_o (fun M413 hM414 => ?_) (fun M415 hM416 => ?_))
                      · obtain ⟨hdg, h0R, h33, h31⟩ := hM414
                        have sm417 : Fm PIt M M413 := Fm.tr hs1 (Fm.mo h0R PQr_I)
                        have hmR : mv M413.2.1 = S := Fm.mv h0R hmB (fun q k h => by unfold PH at h; unfold PQr; omega)
                        refine j_if_ne (tgt := 153) dX11_item_148 rfl (fun c418 => ?_) (fun c418 => ?_)
                        · refine j_aload_n 1 dX11_item_153 rfl ?_
                          refine j_iload_n 2 dX11_item_154 rfl ?_
                          refine j_iload_n 3 dX11_item_155 rfl ?_
                          refine j_callV (kc := 0) (ks := 0) (a := 0) (b := 0) (d' := (d + 2)) (As := [.int (nI v), .int (nI i)]) dX11_item_156 kX11_222 rfl (shM (Fm.M sm417 hM) sgM_0) (by omega) rfl rfl rfl (Nat.le_of_ble_eq_true rfl) (Nat.le_of_ble_eq_true rfl) (T_X11_isSo (Fm.M sm417 hM) hmR ok (nuV_pos hdg) h33 (w := v) (i := i) hv10 (by omega)) (kk_p ?_)
                          refine j_if_neB (p := (mayS S (soN v i) (nuV n t (q + 1)).1)) (tgt := 168) dX11_item_159 rfl (fun c419 => ?_) (fun c419 => ?_)
                          · refine j_aload_n 1 dX11_item_168 rfl ?_
                            refine j_getr (q := 21) dX11_item_169 fX11_87 (shM (Fm.M sm417 hM) sgM_0) rfl (rfM (Fm.M sm417 hM) rfM_0_29) ?_
                            refine j_iload_n 3 dX11_item_172 rfl ?_
                            refine j_aload_n 1 dX11_item_173 rfl ?_
                            refine j_getv (nuV n t (q + 1)).1 dX11_item_174 fX11_202 (shM (Fm.M sm417 hM) sgM_0) rfl h33 ?_
                            refine j_iastN i dX11_item_177 (shM (Fm.M sm417 hM) sgM_21) (by omega) (by omega) ?_
                            have sm420 : Fm PIt M (jk_wI M413 21 i (nuV n t (q + 1)).1) := Fm.w sm417 (by unfold PIt PH PQr; omega)
                            refine j_iinc 3 (nI (i + 1)) (L' := [(2, .int (nI (i + 1))), (3, .int (nI (q + 1))), (0, .ref 0), (1, .int (nI v))]) dX11_item_178 rfl (inc1 i) (by decide) rfl ?_
                            refine j_goto (tgt := 75) dX11_item_181 rfl ?_
                            exact j_sub (jk_pick [2, 3, 0] rfl) (ih383 (i + 1) ((nuV n t (q + 1)).2) (va_up vv i (nuV n t (q + 1)).1) (jk_wI M413 21 i (nuV n t (q + 1)).1) (by omega) (by omega) (nuL_y hnu (so_n hv10 (by omega)) (nuS_3 hsp hdg (by assumption))) sm420 (Fm.mv (P := fun q k => q = 21) (Fm.w Fm.rf rfl) hmR (fun q k h z => by unfold PH at h; omega)) (fun k hk => by
          by_cases e : k = i
          · rw [e, rd_s, va_up_self]
          · rw [rd_k e, va_up_ne _ _ e, Fm.rd h0R (by unfold PQr; omega)]; first | exact htl k (by omega) | exact (rd_o (by decide)).trans (htl k (by omega))) (Or.inr ⟨by omega, (rd_o (by decide)).trans h31⟩) (nuS_in (nuS_3 hsp hdg (by assumption))).2.2.2)
                          · refine j_aload_n 1 dX11_item_162 rfl ?_
                            refine j_iload_n 0 dX11_item_163 rfl ?_
                            refine j_callV (kc := 0) (ks := 0) (a := 0) (b := 0) (d' := d) (As := [.int (nI (q + 1))]) dX11_item_164 kX11_209 rfl (shM (Fm.M sm417 hM) sgM_0) (by omega) rfl rfl rfl (Nat.le_of_ble_eq_true rfl) (Nat.le_of_ble_eq_true rfl) (T_X11_wrong (Fm.M sm417 hM) (nI (q + 1))) (kk_p ?_)
                            have sm421 : Fm PIt M (jk_wI M413 0 34 (nI (q + 1))) := Fm.w sm417 (by unfold PIt PH PQr; omega)
                            refine j_zret dX11_item_167 rfl rfl ?_
                            have hf : nuL S n t v (p + jk_sL.getD v 0) 3 = .inl (q + 1) := nu_stop (by omega) (nuL_n hnu (so_n hv10 (by omega)) (nuS_2 hsp hdg (by assumption)))
                            exact hQ _ _ (Or.inr ⟨rfl, q + 1, itS_2 hwd hr3 hf, sm421, rd_s⟩)
                        · exact absurd c418 (by decide)
                      · obtain ⟨hdg, h0R, h34⟩ := hM416
                        have sm422 : Fm PIt M M415 := Fm.tr hs1 (Fm.mo h0R PQr_I)
                        refine j_if_ne (tgt := 153) dX11_item_148 rfl (fun c423 => ?_) (fun c423 => ?_)
                        · exact absurd c423 (by decide)
                        · refine j_iconst 0 dX11_item_151 ic_0 ?_
                          refine j_zret dX11_item_152 rfl rfl ?_
                          have hf : nuL S n t v (p + jk_sL.getD v 0) 3 = .inl (q + 1) := nu_stop (by omega) (nuL_n hnu (so_n hv10 (by omega)) (nuS_1 hsp hdg))
                          exact hQ _ _ (Or.inr ⟨rfl, q + 1, itS_2 hwd hr3 hf, sm422, h34⟩)
                    · refine j_aload_n 0 dX11_item_89 rfl ?_
                      refine j_getv (nI q) dX11_item_90 fX11_193 (shM (Fm.M hs1 hM) sgM_0) rfl (hpl.resolve_left (fun z => by omega)).2 ?_
                      refine j_aload_n 0 dX11_item_93 rfl ?_
                      refine j_getv (nI n) dX11_item_94 fX11_196 (shM (Fm.M hs1 hM) sgM_0) rfl (RX.it rx hs1).2.2.2.1 ?_
                      refine j_icmp_geN (tgt := 120) q n dX11_item_97 rfl (by omega) (by omega) (fun c424 => ?_) (fun c424 => ?_)
                      · refine j_aload_n 0 dX11_item_120 rfl ?_
                        refine j_aload_n 0 dX11_item_121 rfl ?_
                        refine j_getv (nI q) dX11_item_122 fX11_193 (shM (Fm.M hs1 hM) sgM_0) rfl (hpl.resolve_left (fun z => by omega)).2 ?_
                        refine j_callV (kc := 0) (ks := 0) (a := 0) (b := 0) (d' := d) (As := [.int (nI q)]) dX11_item_125 kX11_209 rfl (shM (Fm.M hs1 hM) sgM_0) (by omega) rfl rfl rfl (Nat.le_of_ble_eq_true rfl) (Nat.le_of_ble_eq_true rfl) (T_X11_wrong (Fm.M hs1 hM) (nI q)) (kk_p ?_)
                        have sm425 : Fm PIt M (jk_wI M1 0 34 (nI q)) := Fm.w hs1 (by unfold PIt PH PQr; omega)
                        refine j_zret dX11_item_128 rfl rfl ?_
                        have hf : nuL S n t v (p + jk_sL.getD v 0) 3 = .inl q := nu_stop (by omega) (nuL_n hnu (so_n hv10 (by omega)) (nuS_0 (fun z => by have z1 := z.1; have z2 := z.2; first | omega | exact absurd z2 (by assumption))))
                        exact hQ _ _ (Or.inr ⟨rfl, q, itS_2 hwd hr3 hf, sm425, rd_s⟩)
                      · refine j_aload_n 0 dX11_item_100 rfl ?_
                        refine j_getr (q := 17) dX11_item_101 fX11_74 (shM (Fm.M hs1 hM) sgM_0) rfl (rfM (Fm.M hs1 hM) rfM_0_25) ?_
                        refine j_aload_n 0 dX11_item_104 rfl ?_
                        refine j_getv (nI b) dX11_item_105 fX11_199 (shM (Fm.M hs1 hM) sgM_0) rfl (RX.it rx hs1).2.2.1 ?_
                        refine j_aload_n 0 dX11_item_108 rfl ?_
                        refine j_getv (nI q) dX11_item_109 fX11_193 (shM (Fm.M hs1 hM) sgM_0) rfl (hpl.resolve_left (fun z => by omega)).2 ?_
                        refine j_iaddN b q dX11_item_112 ?_
                        refine j_laldN (b + q) dX11_item_113 (shM (Fm.M hs1 hM) sgM_17) (by omega) (by omega) ?_
                        refine j_l2i dX11_item_114 ?_
                        refine j_topi (t q) ((RX.it rx hs1).2.2.2.2.1 _ (by omega)) ?_
                        refine j_bipush 32 dX11_item_115 bp_32 ?_
                        refine j_icmp_eq (tgt := 129) dX11_item_117 rfl (fun c426 => ?_) (fun c426 => ?_)
                        · refine j_aload_n 0 dX11_item_129 rfl ?_
                          refine j_dup dX11_item_130 rfl ?_
                          refine j_getv (nI q) dX11_item_131 fX11_193 (shM (Fm.M hs1 hM) sgM_0) rfl (hpl.resolve_left (fun z => by omega)).2 ?_
                          refine j_iconst 1 dX11_item_134 ic_1 ?_
                          refine j_iaddN q 1 dX11_item_135 ?_
                          refine j_put dX11_item_136 fX11_193 (shM (Fm.M hs1 hM) sgM_0) rfl ?_
                          have sm427 : Fm PIt M (jk_wI M1 0 31 (nI (q + 1))) := Fm.w hs1 (by unfold PIt PH PQr; omega)
                          refine j_aload_n 0 dX11_item_139 rfl ?_
                          refine j_getv (nI (q + 1)) dX11_item_140 fX11_193 (shM (Fm.M sm427 hM) sgM_0) rfl rd_s ?_
                          refine j_istore_n (L' := [(3, .int (nI (q + 1))), (0, .ref 0), (1, .int (nI v)), (2, .int (nI i))]) dX11_item_143 (by decide) rfl ?_
                          have hmB : mv (jk_wI M1 0 31 (nI (q + 1))).2.1 = S := (Fm.mv (P := PQr) (Fm.w Fm.rf (by unfold PQr; omega)) hm1 (fun q k h => by unfold PH at h; unfold PQr; omega))
                          have hp1 : (jk_wI M1 0 31 (nI (q + 1))).2.1 0 31 = nI (q + 1) := rd_s
                          have hsp : q < n ∧ t q = 32 := by first | exact ⟨by omega, by assumption⟩ | exact (hpl.resolve_right (fun z => by omega)).2.2
                          refine j_aload_n 1 dX11_item_144 rfl ?_
                          refine j_callV (kc := 0) (ks := 0) (a := 0) (b := 0) (d' := (d + 1)) (As := []) dX11_item_145 kX11_219 rfl (shM (Fm.M sm427 hM) sgM_0) (by omega) rfl rfl rfl (Nat.le_of_ble_eq_true rfl) (Nat.le_of_ble_eq_true rfl) (T_X11_reads (Fm.M sm427 hM) (RX.it rx sm427) hp1 (by omega)) (kk_o (fun M428 hM429 => ?_) (fun M430 hM431 => ?_))
                          · obtain ⟨hdg, h0R, h33, h31⟩ := hM429
                            have sm432 : Fm PIt M M428 := Fm.tr sm427 (Fm.mo h0R PQr_I)
                            have hmR : mv M428.2.1 = S := Fm.mv h0R hmB (fun q k h => by unfold PH at h; unfold PQr; omega)
                            refine j_if_ne (tgt := 153) dX11_item_148 rfl (fun c433 => ?_) (fun c433 => ?_)
                            · refine j_aload_n 1 dX11_item_153 rfl ?_
                              refine j_iload_n 2 dX11_item_154 rfl ?_
                              refine j_iload_n 3 dX11_item_155 rfl ?_
                              refine j_callV (kc := 0) (ks := 0) (a := 0) (b := 0) (d' := (d + 2)) (As := [.int (nI v), .int (nI i)]) dX11_item_156 kX11_222 rfl (shM (Fm.M sm432 hM) sgM_0) (by omega) rfl rfl rfl (Nat.le_of_ble_eq_true rfl) (Nat.le_of_ble_eq_true rfl) (T_X11_isSo (Fm.M sm432 hM) hmR ok (nuV_pos hdg) h33 (w := v) (i := i) hv10 (by omega)) (kk_p ?_)
                              refine j_if_neB (p := (mayS S (soN v i) (nuV n t (q + 1)).1)) (tgt := 168) dX11_item_159 rfl (fun c434 => ?_) (fun c434 => ?_)
                              · refine j_aload_n 1 dX11_item_168 rfl ?_
                                refine j_getr (q := 21) dX11_item_169 fX11_87 (shM (Fm.M sm432 hM) sgM_0) rfl (rfM (Fm.M sm432 hM) rfM_0_29) ?_
                                refine j_iload_n 3 dX11_item_172 rfl ?_
                                refine j_aload_n 1 dX11_item_173 rfl ?_
                                refine j_getv (nuV n t (q + 1)).1 dX11_item_174 fX11_202 (shM (Fm.M sm432 hM) sgM_0) rfl h33 ?_
                                refine j_iastN i dX11_item_177 (shM (Fm.M sm432 hM) sgM_21) (by omega) (by omega) ?_
                                have sm435 : Fm PIt M (jk_wI M428 21 i (nuV n t (q + 1)).1) := Fm.w sm432 (by unfold PIt PH PQr; omega)
                                refine j_iinc 3 (nI (i + 1)) (L' := [(2, .int (nI (i + 1))), (3, .int (nI (q + 1))), (0, .ref 0), (1, .int (nI v))]) dX11_item_178 rfl (inc1 i) (by decide) rfl ?_
                                refine j_goto (tgt := 75) dX11_item_181 rfl ?_
                                exact j_sub (jk_pick [2, 3, 0] rfl) (ih383 (i + 1) ((nuV n t (q + 1)).2) (va_up vv i (nuV n t (q + 1)).1) (jk_wI M428 21 i (nuV n t (q + 1)).1) (by omega) (by omega) (nuL_y hnu (so_n hv10 (by omega)) (nuS_3 hsp hdg (by assumption))) sm435 (Fm.mv (P := fun q k => q = 21) (Fm.w Fm.rf rfl) hmR (fun q k h z => by unfold PH at h; omega)) (fun k hk => by
          by_cases e : k = i
          · rw [e, rd_s, va_up_self]
          · rw [rd_k e, va_up_ne _ _ e, Fm.rd h0R (by unfold PQr; omega)]; first | exact htl k (by omega) | exact (rd_o (by decide)).trans (htl k (by omega))) (Or.inr ⟨by omega, (rd_o (by decide)).trans h31⟩) (nuS_in (nuS_3 hsp hdg (by assumption))).2.2.2)
                              · refine j_aload_n 1 dX11_item_162 rfl ?_
                                refine j_iload_n 0 dX11_item_163 rfl ?_
                                refine j_callV (kc := 0) (ks := 0) (a := 0) (b := 0) (d' := d) (As := [.int (nI (q + 1))]) dX11_item_164 kX11_209 rfl (shM (Fm.M sm432 hM) sgM_0) (by omega) rfl rfl rfl (Nat.le_of_ble_eq_true rfl) (Nat.le_of_ble_eq_true rfl) (T_X11_wrong (Fm.M sm432 hM) (nI (q + 1))) (kk_p ?_)
                                have sm436 : Fm PIt M (jk_wI M428 0 34 (nI (q + 1))) := Fm.w sm432 (by unfold PIt PH PQr; omega)
                                refine j_zret dX11_item_167 rfl rfl ?_
                                have hf : nuL S n t v (p + jk_sL.getD v 0) 3 = .inl (q + 1) := nu_stop (by omega) (nuL_n hnu (so_n hv10 (by omega)) (nuS_2 hsp hdg (by assumption)))
                                exact hQ _ _ (Or.inr ⟨rfl, q + 1, itS_2 hwd hr3 hf, sm436, rd_s⟩)
                            · exact absurd c433 (by decide)
                          · obtain ⟨hdg, h0R, h34⟩ := hM431
                            have sm437 : Fm PIt M M430 := Fm.tr sm427 (Fm.mo h0R PQr_I)
                            refine j_if_ne (tgt := 153) dX11_item_148 rfl (fun c438 => ?_) (fun c438 => ?_)
                            · exact absurd c438 (by decide)
                            · refine j_iconst 0 dX11_item_151 ic_0 ?_
                              refine j_zret dX11_item_152 rfl rfl ?_
                              have hf : nuL S n t v (p + jk_sL.getD v 0) 3 = .inl (q + 1) := nu_stop (by omega) (nuL_n hnu (so_n hv10 (by omega)) (nuS_1 hsp hdg))
                              exact hQ _ _ (Or.inr ⟨rfl, q + 1, itS_2 hwd hr3 hf, sm437, h34⟩)
                        · refine j_aload_n 0 dX11_item_120 rfl ?_
                          refine j_aload_n 0 dX11_item_121 rfl ?_
                          refine j_getv (nI q) dX11_item_122 fX11_193 (shM (Fm.M hs1 hM) sgM_0) rfl (hpl.resolve_left (fun z => by omega)).2 ?_
                          refine j_callV (kc := 0) (ks := 0) (a := 0) (b := 0) (d' := d) (As := [.int (nI q)]) dX11_item_125 kX11_209 rfl (shM (Fm.M hs1 hM) sgM_0) (by omega) rfl rfl rfl (Nat.le_of_ble_eq_true rfl) (Nat.le_of_ble_eq_true rfl) (T_X11_wrong (Fm.M hs1 hM) (nI q)) (kk_p ?_)
                          have sm439 : Fm PIt M (jk_wI M1 0 34 (nI q)) := Fm.w hs1 (by unfold PIt PH PQr; omega)
                          refine j_zret dX11_item_128 rfl rfl ?_
                          have hf : nuL S n t v (p + jk_sL.getD v 0) 3 = .inl q := nu_stop (by omega) (nuL_n hnu (so_n hv10 (by omega)) (nuS_0 (fun z => by have z1 := z.1; have z2 := z.2; first | omega | exact absurd z2 (by assumption))))
                          exact hQ _ _ (Or.inr ⟨rfl, q, itS_2 hwd hr3 hf, sm439, rd_s⟩)
              exact j_sub (jk_pick [2, 1, 0] rfl) (lp384 _ 0 (p + jk_sL.getD v 0) (fun _ => 0) (jk_wI M 0 31 (nI (p + jk_sL.getD v 0 + 1))) (Nat.lt_succ_self _) (Nat.zero_le _) rfl sm380 hmW (fun k hk => absurd hk (Nat.not_lt_zero k)) (Or.inl ⟨rfl, rd_s, hspc⟩) (by omega))
            · exact absurd c381 (nI_n1 (by omega))
          · refine j_aload_n 0 dX11_item_43 rfl ?_
            refine j_getv (nI (nD S)) dX11_item_44 fX11_147 (shM hM sgM_0) rfl ((mr_D hS).trans (Sok.D ok).1) ?_
            refine j_bipush 6 dX11_item_47 bp_6 ?_
            refine j_icmp_neN (tgt := 61) (nD S) 6 dX11_item_49 rfl (by omega) (by omega) (fun c440 => ?_) (fun c440 => ?_)
            · have hroom : ∀ w, wdN n t p 10 = some w → roomS S w := fun w hw => ⟨(fun e => by first | omega | exact absurd (show mt n t p 1 = jk_sL.getD 1 0 by have q := (wd_lt 10 hw).2; rw [e] at q; exact q) (by assumption)), (fun e => by first | omega | exact absurd (show mt n t p 5 = jk_sL.getD 5 0 by have q := (wd_lt 10 hw).2; rw [e] at q; exact q) (by assumption)), (fun e => by first | omega | exact absurd (show mt n t p 6 = jk_sL.getD 6 0 by have q := (wd_lt 10 hw).2; rw [e] at q; exact q) (by assumption))⟩
              refine j_aload_n 0 dX11_item_61 rfl ?_
              refine j_callV (kc := 0) (ks := 0) (a := 0) (b := 0) (d' := d) (As := []) dX11_item_62 kX11_215 rfl (shM hM sgM_0) (by omega) rfl rfl rfl (Nat.le_of_ble_eq_true rfl) (Nat.le_of_ble_eq_true rfl) (T_wordS hM rx hp (by omega) v hv) (kk_p ?_)
              have sm441 : Fm PIt M (jk_wI M 0 31 (nI (p + jk_sL.getD v 0 + 1))) := Fm.w Fm.rf (by unfold PIt PH PQr; omega)
              refine j_istore_n (L' := [(1, .int (nI v)), (0, .ref 0)]) dX11_item_65 (by decide) rfl ?_
              have hr3 := hroom v hwd
              have hl9 := sL9 v hv10
              obtain ⟨-, hnb3, hnb1, -⟩ := nb_T v hv10
              have hmW : mv (jk_wI M 0 31 (nI (p + jk_sL.getD v 0 + 1))).2.1 = S := Fm.mv (P := PQr) (Fm.w Fm.rf (by unfold PQr; omega)) hS (fun q k h => by unfold PH at h; unfold PQr; omega)
              refine j_iload_n 0 dX11_item_66 rfl ?_
              refine j_iconst (-1) dX11_item_67 ic_n1 ?_
              refine j_icmp_ne (tgt := 73) dX11_item_68 rfl (fun c442 => ?_) (fun c442 => ?_)
              · refine j_iconst 0 dX11_item_73 ic_0 ?_
                refine j_istore_n (L' := [(2, .int 0), (1, .int (nI v)), (0, .ref 0)]) dX11_item_74 (by decide) rfl ?_
                have lp445 : ∀ (k443 : Nat) (i : Nat) (q : Nat) (vv : Nat → Int32) (M1 : jk_M), nbN v - i < k443 → (i ≤ nbN v) → (nuL S n t v (p + jk_sL.getD v 0) i = .inr (q, vv)) → (Fm PIt M M1) → (mv M1.2.1 = S) → (∀ k, k < i → M1.2.1 21 k = vv k) → ((i = 0 ∧ M1.2.1 0 31 = nI (q + 1) ∧ q < n ∧ t q = 32) ∨ (0 < i ∧ M1.2.1 0 31 = nI q)) → (q ≤ n) → J Fr_X11_item (d + 3) 0 0 75 [(0, .ref 0), (1, .int (nI v)), (2, .int (nI i))] [] M1 Q := by
                  intro k443
                  induction k443 with
                  | zero => intro i q vv M1 hk; exact absurd hk (Nat.not_lt_zero _)
                  | succ k443 ih444 =>
                    intro i q vv M1 hk443 hi hnu hs1 hm1 htl hpl hqn
                    refine j_iload_n 2 dX11_item_75 rfl ?_
                    refine j_aload_n 0 dX11_item_76 rfl ?_
                    refine j_getr (q := 20) dX11_item_77 fX11_84 (shM (Fm.M hs1 hM) sgM_0) rfl (rfM (Fm.M hs1 hM) rfM_0_28) ?_
                    refine j_iload_n 1 dX11_item_80 rfl ?_
                    refine j_ialdN v dX11_item_81 (shM (Fm.M hs1 hM) sgM_20) (by omega) (by omega) ?_
                    refine j_topi (nI (nbN v)) (((RX.it rx hs1).2.2.2.2.2.2 _ (by omega)).trans (nb_T v hv10).1) ?_
                    refine j_icmp_geN (tgt := 184) i (nbN v) dX11_item_82 rfl (by omega) (by omega) (fun c446 => ?_) (fun c446 => ?_)
                    · have ei : i = nbN v := by omega
                      have hn3 := nu_end hv10 (by rw [← ei]; exact hnu)
                      have hmay := (nuL_may 3 _ _ hn3).1
                      have h31b : M1.2.1 0 31 = nI q := (hpl.resolve_left (fun z => by omega)).2
                      refine j_iload_n 1 dX11_item_184 rfl ?_
                      by_cases c448 : (nI v) = 0
                      · refine j_tableIn (tgt := 240) dX11_item_185 (by rw [c448]; decide) (by rw [c448]; decide) (off := 55) (by rw [c448]; decide) rfl ?_
                        have hvk : v = 0 := (nI_eq (by omega) (by omega)).mp (c448 : nI v = nI 0)
                        have hnbk : nbN v = 1 := by rw [hvk]; rfl
                        refine j_aload_n 0 dX11_item_240 rfl ?_
                        refine j_aload_n 0 dX11_item_241 rfl ?_
                        refine j_getr (q := 21) dX11_item_242 fX11_87 (shM (Fm.M hs1 hM) sgM_0) rfl (rfM (Fm.M hs1 hM) rfM_0_29) ?_
                        refine j_iconst 0 dX11_item_245 ic_0 ?_
                        refine j_ialdN 0 dX11_item_246 (shM (Fm.M hs1 hM) sgM_21) (by omega) (by omega) ?_
                        refine j_topi (vv 0) (htl _ (by omega)) ?_
                        refine j_put dX11_item_247 fX11_7 (shM (Fm.M hs1 hM) sgM_0) rfl ?_
                        have sm449 : Fm PIt M (jk_wI M1 0 3 (vv 0)) := Fm.w hs1 (by unfold PIt PH PQr; omega)
                        refine j_goto (tgt := 409) dX11_item_250 rfl ?_
                        refine j_iconst 1 dX11_item_409 ic_1 ?_
                        refine j_zret dX11_item_410 rfl rfl ?_
                        have hmv : mv (jk_wI M1 0 3 (vv 0)).2.1 = apS S v (vv 0) (vv 1) (vv 2) := by
                          rw [hvk]
                          exact mv_sc (a := 0) hm1 (by decide) (by decide) (by decide) (by decide)
                        have h31e : (jk_wI M1 0 3 (vv 0)).2.1 0 31 = nI q := (rd_p (by omega)).trans h31b
                        exact hQ _ _ (Or.inl ⟨rfl, _, q, itS_3 hwd hr3 hn3, sm449, hmv, h31e⟩)
                      by_cases c450 : (nI v) = 1
                      · refine j_tableIn (tgt := 253) dX11_item_185 (by rw [c450]; decide) (by rw [c450]; decide) (off := 68) (by rw [c450]; decide) rfl ?_
                        have hvk : v = 1 := (nI_eq (by omega) (by omega)).mp (c450 : nI v = nI 1)
                        have hnbk : nbN v = 3 := by rw [hvk]; rfl
                        obtain ⟨hr1, hr5, hr6⟩ := hr3
                        have hlt := hr1 hvk
                        have hr3 : roomS S v := ⟨hr1, hr5, hr6⟩
                        refine j_aload_n 0 dX11_item_253 rfl ?_
                        refine j_aload_n 0 dX11_item_254 rfl ?_
                        refine j_getr (q := 21) dX11_item_255 fX11_87 (shM (Fm.M hs1 hM) sgM_0) rfl (rfM (Fm.M hs1 hM) rfM_0_29) ?_
                        refine j_iconst 0 dX11_item_258 ic_0 ?_
                        refine j_ialdN 0 dX11_item_259 (shM (Fm.M hs1 hM) sgM_21) (by omega) (by omega) ?_
                        refine j_topi (vv 0) (htl _ (by omega)) ?_
                        refine j_aload_n 0 dX11_item_260 rfl ?_
                        refine j_getr (q := 21) dX11_item_261 fX11_87 (shM (Fm.M hs1 hM) sgM_0) rfl (rfM (Fm.M hs1 hM) rfM_0_29) ?_
                        refine j_iconst 1 dX11_item_264 ic_1 ?_
                        refine j_ialdN 1 dX11_item_265 (shM (Fm.M hs1 hM) sgM_21) (by omega) (by omega) ?_
                        refine j_topi (vv 1) (htl _ (by omega)) ?_
                        refine j_aload_n 0 dX11_item_266 rfl ?_
                        refine j_getr (q := 21) dX11_item_267 fX11_87 (shM (Fm.M hs1 hM) sgM_0) rfl (rfM (Fm.M hs1 hM) rfM_0_29) ?_
                        refine j_iconst 2 dX11_item_270 ic_2 ?_
                        refine j_ialdN 2 dX11_item_271 (shM (Fm.M hs1 hM) sgM_21) (by omega) (by omega) ?_
                        refine j_topi (vv 2) (htl _ (by omega)) ?_
                        refine j_callV (kc := 0) (ks := 0) (a := 0) (b := 0) (d' := d) (As := [.int (vv 0), .int (vv 1), .int (vv 2)]) dX11_item_272 kX11_157 rfl (shM (Fm.M hs1 hM) sgM_0) (by omega) rfl rfl rfl (Nat.le_of_ble_eq_true rfl) (Nat.le_of_ble_eq_true rfl) (T_X11_addsThing (Fm.M hs1 hM) hm1 ok (vv 0) (vv 1) (vv 2) hlt) (kk_e (fun M451 hM452 => ?_))
                        obtain ⟨h0A, hvA⟩ := hM452
                        have smA : Fm PIt M M451 := Fm.tr hs1 (Fm.mo h0A PA_I)
                        refine j_pop dX11_item_275 rfl ?_
                        refine j_goto (tgt := 409) dX11_item_276 rfl ?_
                        refine j_iconst 1 dX11_item_409 ic_1 ?_
                        refine j_zret dX11_item_410 rfl rfl ?_
                        have hmv : mv M451.2.1 = apS S v (vv 0) (vv 1) (vv 2) := by
                          rw [hvk]
                          exact hvA
                        have h31e : M451.2.1 0 31 = nI q := (Fm.rd h0A (by unfold PA; omega)).trans h31b
                        exact hQ _ _ (Or.inl ⟨rfl, _, q, itS_3 hwd hr3 hn3, smA, hmv, h31e⟩)
                      by_cases c453 : (nI v) = 2
                      · refine j_tableIn (tgt := 279) dX11_item_185 (by rw [c453]; decide) (by rw [c453]; decide) (off := 94) (by rw [c453]; decide) rfl ?_
                        have hvk : v = 2 := (nI_eq (by omega) (by omega)).mp (c453 : nI v = nI 2)
                        have hnbk : nbN v = 2 := by rw [hvk]; rfl
                        have hm0 : mayS S 4 (vv 0) := by have q := hmay 0 (by omega) (by rw [hvk]; decide); rw [hvk] at q; exact q
                        rw [may_4] at hm0
                        obtain ⟨j0, hj0, ej0⟩ := in2 hm0
                        refine j_aload_n 0 dX11_item_279 rfl ?_
                        refine j_getr (q := 12) dX11_item_280 fX11_59 (shM (Fm.M hs1 hM) sgM_0) rfl (rfM (Fm.M hs1 hM) rfM_0_20) ?_
                        refine j_aload_n 0 dX11_item_283 rfl ?_
                        refine j_getr (q := 21) dX11_item_284 fX11_87 (shM (Fm.M hs1 hM) sgM_0) rfl (rfM (Fm.M hs1 hM) rfM_0_29) ?_
                        refine j_iconst 0 dX11_item_287 ic_0 ?_
                        refine j_ialdN 0 dX11_item_288 (shM (Fm.M hs1 hM) sgM_21) (by omega) (by omega) ?_
                        refine j_topi (nI j0) ((htl 0 (by omega)).trans ej0) ?_
                        refine j_aload_n 0 dX11_item_289 rfl ?_
                        refine j_getr (q := 21) dX11_item_290 fX11_87 (shM (Fm.M hs1 hM) sgM_0) rfl (rfM (Fm.M hs1 hM) rfM_0_29) ?_
                        refine j_iconst 1 dX11_item_293 ic_1 ?_
                        refine j_ialdN 1 dX11_item_294 (shM (Fm.M hs1 hM) sgM_21) (by omega) (by omega) ?_
                        refine j_topi (vv 1) (htl _ (by omega)) ?_
                        refine j_iastN j0 dX11_item_295 (shM (Fm.M hs1 hM) sgM_12) (by omega) (by omega) ?_
                        have sm454 : Fm PIt M (jk_wI M1 12 j0 (vv 1)) := Fm.w hs1 (by unfold PIt PH PQr; omega)
                        refine j_goto (tgt := 409) dX11_item_296 rfl ?_
                        refine j_iconst 1 dX11_item_409 ic_1 ?_
                        refine j_zret dX11_item_410 rfl rfl ?_
                        have hmv : mv (jk_wI M1 12 j0 (vv 1)).2.1 = apS S v (vv 0) (vv 1) (vv 2) := by
                          rw [hvk]
                          refine (show mv (jk_wI M1 12 j0 (vv 1)).2.1 = if vv 0 = 0 then upS S 5 0 (vv 1) else upS S 6 0 (vv 1) from ?_)
                          rcases (show j0 = 0 ∨ j0 = 1 by omega) with e | e
                          · subst e; rw [if_pos (show vv 0 = 0 from ej0)]; exact mv_sc (a := 5) hm1 (by decide) (by decide) (by decide) (by decide)
                          · subst e; rw [if_neg (by rw [ej0]; decide)]; exact mv_sc (a := 6) hm1 (by decide) (by decide) (by decide) (by decide)
                        have h31e : (jk_wI M1 12 j0 (vv 1)).2.1 0 31 = nI q := (rd_p (by omega)).trans h31b
                        exact hQ _ _ (Or.inl ⟨rfl, _, q, itS_3 hwd hr3 hn3, sm454, hmv, h31e⟩)
                      by_cases c455 : (nI v) = 3
                      · refine j_tableIn (tgt := 299) dX11_item_185 (by rw [c455]; decide) (by rw [c455]; decide) (off := 114) (by rw [c455]; decide) rfl ?_
                        have hvk : v = 3 := (nI_eq (by omega) (by omega)).mp (c455 : nI v = nI 3)
                        have hnbk : nbN v = 1 := by rw [hvk]; rfl
                        refine j_aload_n 0 dX11_item_299 rfl ?_
                        refine j_iconst 0 dX11_item_300 ic_0 ?_
                        refine j_aload_n 0 dX11_item_301 rfl ?_
                        refine j_getr (q := 21) dX11_item_302 fX11_87 (shM (Fm.M hs1 hM) sgM_0) rfl (rfM (Fm.M hs1 hM) rfM_0_29) ?_
                        refine j_iconst 0 dX11_item_305 ic_0 ?_
                        refine j_ialdN 0 dX11_item_306 (shM (Fm.M hs1 hM) sgM_21) (by omega) (by omega) ?_
                        refine j_topi (vv 0) (htl _ (by omega)) ?_
                        refine j_callV (kc := 0) (ks := 0) (a := 0) (b := 0) (d' := d) (As := [.int 0, .int (vv 0)]) dX11_item_307 kX11_177 rfl (shM (Fm.M hs1 hM) sgM_0) (by omega) rfl rfl rfl (Nat.le_of_ble_eq_true rfl) (Nat.le_of_ble_eq_true rfl) (T_tells0 (Fm.M hs1 hM) (vv 0)) (kk_pv ?_)
                        have sm456 : Fm PIt M (jk_wI M1 0 4 (vv 0)) := Fm.w hs1 (by unfold PIt PH PQr; omega)
                        refine j_goto (tgt := 409) dX11_item_310 rfl ?_
                        refine j_iconst 1 dX11_item_409 ic_1 ?_
                        refine j_zret dX11_item_410 rfl rfl ?_
                        have hmv : mv (jk_wI M1 0 4 (vv 0)).2.1 = apS S v (vv 0) (vv 1) (vv 2) := by
                          rw [hvk]
                          exact mv_sc (a := 1) hm1 (by decide) (by decide) (by decide) (by decide)
                        have h31e : (jk_wI M1 0 4 (vv 0)).2.1 0 31 = nI q := (rd_p (by omega)).trans h31b
                        exact hQ _ _ (Or.inl ⟨rfl, _, q, itS_3 hwd hr3 hn3, sm456, hmv, h31e⟩)
                      by_cases c457 : (nI v) = 4
                      · refine j_tableIn (tgt := 313) dX11_item_185 (by rw [c457]; decide) (by rw [c457]; decide) (off := 128) (by rw [c457]; decide) rfl ?_
                        have hvk : v = 4 := (nI_eq (by omega) (by omega)).mp (c457 : nI v = nI 4)
                        have hnbk : nbN v = 1 := by rw [hvk]; rfl
                        refine j_aload_n 0 dX11_item_313 rfl ?_
                        refine j_iconst 1 dX11_item_314 ic_1 ?_
                        refine j_aload_n 0 dX11_item_315 rfl ?_
                        refine j_getr (q := 21) dX11_item_316 fX11_87 (shM (Fm.M hs1 hM) sgM_0) rfl (rfM (Fm.M hs1 hM) rfM_0_29) ?_
                        refine j_iconst 0 dX11_item_319 ic_0 ?_
                        refine j_ialdN 0 dX11_item_320 (shM (Fm.M hs1 hM) sgM_21) (by omega) (by omega) ?_
                        refine j_topi (vv 0) (htl _ (by omega)) ?_
                        refine j_callV (kc := 0) (ks := 0) (a := 0) (b := 0) (d' := d) (As := [.int 1, .int (vv 0)]) dX11_item_321 kX11_177 rfl (shM (Fm.M hs1 hM) sgM_0) (by omega) rfl rfl rfl (Nat.le_of_ble_eq_true rfl) (Nat.le_of_ble_eq_true rfl) (T_tells1 (Fm.M hs1 hM) (vv 0)) (kk_pv ?_)
                        have sm458 : Fm PIt M (jk_wI M1 0 5 (vv 0)) := Fm.w hs1 (by unfold PIt PH PQr; omega)
                        refine j_goto (tgt := 409) dX11_item_324 rfl ?_
                        refine j_iconst 1 dX11_item_409 ic_1 ?_
                        refine j_zret dX11_item_410 rfl rfl ?_
                        have hmv : mv (jk_wI M1 0 5 (vv 0)).2.1 = apS S v (vv 0) (vv 1) (vv 2) := by
                          rw [hvk]
                          exact mv_sc (a := 2) hm1 (by decide) (by decide) (by decide) (by decide)
                        have h31e : (jk_wI M1 0 5 (vv 0)).2.1 0 31 = nI q := (rd_p (by omega)).trans h31b
                        exact hQ _ _ (Or.inl ⟨rfl, _, q, itS_3 hwd hr3 hn3, sm458, hmv, h31e⟩)
                      by_cases c459 : (nI v) = 5
                      · refine j_tableIn (tgt := 327) dX11_item_185 (by rw [c459]; decide) (by rw [c459]; decide) (off := 142) (by rw [c459]; decide) rfl ?_
                        have hvk : v = 5 := (nI_eq (by omega) (by omega)).mp (c459 : nI v = nI 5)
                        have hnbk : nbN v = 2 := by rw [hvk]; rfl
                        obtain ⟨hr1, hr5, hr6⟩ := hr3
                        have hlt := hr5 hvk
                        have hr3 : roomS S v := ⟨hr1, hr5, hr6⟩
                        refine j_aload_n 0 dX11_item_327 rfl ?_
                        refine j_aload_n 0 dX11_item_328 rfl ?_
                        refine j_getr (q := 21) dX11_item_329 fX11_87 (shM (Fm.M hs1 hM) sgM_0) rfl (rfM (Fm.M hs1 hM) rfM_0_29) ?_
                        refine j_iconst 0 dX11_item_332 ic_0 ?_
                        refine j_ialdN 0 dX11_item_333 (shM (Fm.M hs1 hM) sgM_21) (by omega) (by omega) ?_
                        refine j_topi (vv 0) (htl _ (by omega)) ?_
                        refine j_aload_n 0 dX11_item_334 rfl ?_
                        refine j_getr (q := 21) dX11_item_335 fX11_87 (shM (Fm.M hs1 hM) sgM_0) rfl (rfM (Fm.M hs1 hM) rfM_0_29) ?_
                        refine j_iconst 1 dX11_item_338 ic_1 ?_
                        refine j_ialdN 1 dX11_item_339 (shM (Fm.M hs1 hM) sgM_21) (by omega) (by omega) ?_
                        refine j_topi (vv 1) (htl _ (by omega)) ?_
                        refine j_callV (kc := 0) (ks := 0) (a := 0) (b := 0) (d' := d) (As := [.int (vv 0), .int (vv 1)]) dX11_item_340 kX11_161 rfl (shM (Fm.M hs1 hM) sgM_0) (by omega) rfl rfl rfl (Nat.le_of_ble_eq_true rfl) (Nat.le_of_ble_eq_true rfl) (T_X11_addsNeighbour (Fm.M hs1 hM) hm1 ok (vv 0) (vv 1) hlt) (kk_e (fun M460 hM461 => ?_))
                        obtain ⟨h0A, hvA⟩ := hM461
                        have smA : Fm PIt M M460 := Fm.tr hs1 (Fm.mo h0A PA_I)
                        refine j_pop dX11_item_343 rfl ?_
                        refine j_goto (tgt := 409) dX11_item_344 rfl ?_
                        refine j_iconst 1 dX11_item_409 ic_1 ?_
                        refine j_zret dX11_item_410 rfl rfl ?_
                        have hmv : mv M460.2.1 = apS S v (vv 0) (vv 1) (vv 2) := by
                          rw [hvk]
                          exact hvA
                        have h31e : M460.2.1 0 31 = nI q := (Fm.rd h0A (by unfold PA; omega)).trans h31b
                        exact hQ _ _ (Or.inl ⟨rfl, _, q, itS_3 hwd hr3 hn3, smA, hmv, h31e⟩)
                      by_cases c462 : (nI v) = 6
                      · refine j_tableIn (tgt := 347) dX11_item_185 (by rw [c462]; decide) (by rw [c462]; decide) (off := 162) (by rw [c462]; decide) rfl ?_
                        have hvk : v = 6 := (nI_eq (by omega) (by omega)).mp (c462 : nI v = nI 6)
                        have hnbk : nbN v = 3 := by rw [hvk]; rfl
                        obtain ⟨hr1, hr5, hr6⟩ := hr3
                        have hlt := hr6 hvk
                        have hr3 : roomS S v := ⟨hr1, hr5, hr6⟩
                        refine j_aload_n 0 dX11_item_347 rfl ?_
                        refine j_aload_n 0 dX11_item_348 rfl ?_
                        refine j_getr (q := 21) dX11_item_349 fX11_87 (shM (Fm.M hs1 hM) sgM_0) rfl (rfM (Fm.M hs1 hM) rfM_0_29) ?_
                        refine j_iconst 0 dX11_item_352 ic_0 ?_
                        refine j_ialdN 0 dX11_item_353 (shM (Fm.M hs1 hM) sgM_21) (by omega) (by omega) ?_
                        refine j_topi (vv 0) (htl _ (by omega)) ?_
                        refine j_aload_n 0 dX11_item_354 rfl ?_
                        refine j_getr (q := 21) dX11_item_355 fX11_87 (shM (Fm.M hs1 hM) sgM_0) rfl (rfM (Fm.M hs1 hM) rfM_0_29) ?_
                        refine j_iconst 1 dX11_item_358 ic_1 ?_
                        refine j_ialdN 1 dX11_item_359 (shM (Fm.M hs1 hM) sgM_21) (by omega) (by omega) ?_
                        refine j_topi (vv 1) (htl _ (by omega)) ?_
                        refine j_aload_n 0 dX11_item_360 rfl ?_
                        refine j_getr (q := 21) dX11_item_361 fX11_87 (shM (Fm.M hs1 hM) sgM_0) rfl (rfM (Fm.M hs1 hM) rfM_0_29) ?_
                        refine j_iconst 2 dX11_item_364 ic_2 ?_
                        refine j_ialdN 2 dX11_item_365 (shM (Fm.M hs1 hM) sgM_21) (by omega) (by omega) ?_
                        refine j_topi (vv 2) (htl _ (by omega)) ?_
                        refine j_callV (kc := 0) (ks := 0) (a := 0) (b := 0) (d' := d) (As := [.int (vv 0), .int (vv 1), .int (vv 2)]) dX11_item_366 kX11_164 rfl (shM (Fm.M hs1 hM) sgM_0) (by omega) rfl rfl rfl (Nat.le_of_ble_eq_true rfl) (Nat.le_of_ble_eq_true rfl) (T_X11_addsDevice (Fm.M hs1 hM) hm1 ok (vv 0) (vv 1) (vv 2) hlt) (kk_e (fun M463 hM464 => ?_))
                        obtain ⟨h0A, hvA⟩ := hM464
                        have smA : Fm PIt M M463 := Fm.tr hs1 (Fm.mo h0A PA_I)
                        refine j_pop dX11_item_369 rfl ?_
                        refine j_goto (tgt := 409) dX11_item_370 rfl ?_
                        refine j_iconst 1 dX11_item_409 ic_1 ?_
                        refine j_zret dX11_item_410 rfl rfl ?_
                        have hmv : mv M463.2.1 = apS S v (vv 0) (vv 1) (vv 2) := by
                          rw [hvk]
                          exact hvA
                        have h31e : M463.2.1 0 31 = nI q := (Fm.rd h0A (by unfold PA; omega)).trans h31b
                        exact hQ _ _ (Or.inl ⟨rfl, _, q, itS_3 hwd hr3 hn3, smA, hmv, h31e⟩)
                      by_cases c465 : (nI v) = 7
                      · refine j_tableIn (tgt := 387) dX11_item_185 (by rw [c465]; decide) (by rw [c465]; decide) (off := 202) (by rw [c465]; decide) rfl ?_
                        have hvk : v = 7 := (nI_eq (by omega) (by omega)).mp (c465 : nI v = nI 7)
                        have hnbk : nbN v = 1 := by rw [hvk]; rfl
                        have hm0 : mayS S 10 (vv 0) := by have q := hmay 0 (by omega) (by rw [hvk]; decide); rw [hvk] at q; exact q
                        obtain ⟨j0, hj0, ej0⟩ := may10 ok hm0
                        refine j_aload_n 0 dX11_item_387 rfl ?_
                        refine j_getr (q := 5) dX11_item_388 fX11_38 (shM (Fm.M hs1 hM) sgM_0) rfl (rfM (Fm.M hs1 hM) rfM_0_13) ?_
                        refine j_aload_n 0 dX11_item_391 rfl ?_
                        refine j_getr (q := 21) dX11_item_392 fX11_87 (shM (Fm.M hs1 hM) sgM_0) rfl (rfM (Fm.M hs1 hM) rfM_0_29) ?_
                        refine j_iconst 0 dX11_item_395 ic_0 ?_
                        refine j_ialdN 0 dX11_item_396 (shM (Fm.M hs1 hM) sgM_21) (by omega) (by omega) ?_
                        refine j_topi (nI j0) ((htl 0 (by omega)).trans ej0) ?_
                        refine j_iload_n 1 dX11_item_397 rfl ?_
                        refine j_bipush 8 dX11_item_398 bp_8 ?_
                        refine j_icmp_neN (tgt := 407) v 8 dX11_item_400 rfl (by omega) (by omega) (fun c466 => ?_) (fun c466 => ?_)
                        · refine j_iconst 0 dX11_item_407 ic_0 ?_
                          refine j_iastN j0 dX11_item_408 (shM (Fm.M hs1 hM) sgM_5) (by omega) (by omega) ?_
                          have sm467 : Fm PIt M (jk_wI M1 5 j0 0) := Fm.w hs1 (by unfold PIt PH PQr; omega)
                          refine j_iconst 1 dX11_item_409 ic_1 ?_
                          refine j_zret dX11_item_410 rfl rfl ?_
                          have hmv : mv (jk_wI M1 5 j0 0).2.1 = apS S v (vv 0) (vv 1) (vv 2) := by
                            rw [hvk]
                            show mv (jk_wI M1 5 j0 0).2.1 = upS S 13 (vv 0).toNatClampNeg 0
                            rw [ej0, nI_clamp (by omega)]; exact mv_ar (a := 13) hm1 (by omega)
                          have h31e : (jk_wI M1 5 j0 0).2.1 0 31 = nI q := (rd_p (by omega)).trans h31b
                          exact hQ _ _ (Or.inl ⟨rfl, _, q, itS_3 hwd hr3 hn3, sm467, hmv, h31e⟩)
                        · exact absurd (hvk.symm.trans c466) (by decide)
                      by_cases c468 : (nI v) = 8
                      · refine j_tableIn (tgt := 387) dX11_item_185 (by rw [c468]; decide) (by rw [c468]; decide) (off := 202) (by rw [c468]; decide) rfl ?_
                        have hvk : v = 8 := (nI_eq (by omega) (by omega)).mp (c468 : nI v = nI 8)
                        have hnbk : nbN v = 1 := by rw [hvk]; rfl
                        have hm0 : mayS S 10 (vv 0) := by have q := hmay 0 (by omega) (by rw [hvk]; decide); rw [hvk] at q; exact q
                        obtain ⟨j0, hj0, ej0⟩ := may10 ok hm0
                        refine j_aload_n 0 dX11_item_387 rfl ?_
                        refine j_getr (q := 5) dX11_item_388 fX11_38 (shM (Fm.M hs1 hM) sgM_0) rfl (rfM (Fm.M hs1 hM) rfM_0_13) ?_
                        refine j_aload_n 0 dX11_item_391 rfl ?_
                        refine j_getr (q := 21) dX11_item_392 fX11_87 (shM (Fm.M hs1 hM) sgM_0) rfl (rfM (Fm.M hs1 hM) rfM_0_29) ?_
                        refine j_iconst 0 dX11_item_395 ic_0 ?_
                        refine j_ialdN 0 dX11_item_396 (shM (Fm.M hs1 hM) sgM_21) (by omega) (by omega) ?_
                        refine j_topi (nI j0) ((htl 0 (by omega)).trans ej0) ?_
                        refine j_iload_n 1 dX11_item_397 rfl ?_
                        refine j_bipush 8 dX11_item_398 bp_8 ?_
                        refine j_icmp_neN (tgt := 407) v 8 dX11_item_400 rfl (by omega) (by omega) (fun c469 => ?_) (fun c469 => ?_)
                        · exact absurd hvk c469
                        · refine j_iconst 1 dX11_item_403 ic_1 ?_
                          refine j_goto (tgt := 408) dX11_item_404 rfl ?_
                          refine j_iastN j0 dX11_item_408 (shM (Fm.M hs1 hM) sgM_5) (by omega) (by omega) ?_
                          have sm470 : Fm PIt M (jk_wI M1 5 j0 1) := Fm.w hs1 (by unfold PIt PH PQr; omega)
                          refine j_iconst 1 dX11_item_409 ic_1 ?_
                          refine j_zret dX11_item_410 rfl rfl ?_
                          have hmv : mv (jk_wI M1 5 j0 1).2.1 = apS S v (vv 0) (vv 1) (vv 2) := by
                            rw [hvk]
                            show mv (jk_wI M1 5 j0 1).2.1 = upS S 13 (vv 0).toNatClampNeg 1
                            rw [ej0, nI_clamp (by omega)]; exact mv_ar (a := 13) hm1 (by omega)
                          have h31e : (jk_wI M1 5 j0 1).2.1 0 31 = nI q := (rd_p (by omega)).trans h31b
                          exact hQ _ _ (Or.inl ⟨rfl, _, q, itS_3 hwd hr3 hn3, sm470, hmv, h31e⟩)
                      by_cases c471 : (nI v) = 9
                      · refine j_tableIn (tgt := 373) dX11_item_185 (by rw [c471]; decide) (by rw [c471]; decide) (off := 188) (by rw [c471]; decide) rfl ?_
                        have hvk : v = 9 := (nI_eq (by omega) (by omega)).mp (c471 : nI v = nI 9)
                        have hnbk : nbN v = 1 := by rw [hvk]; rfl
                        refine j_aload_n 0 dX11_item_373 rfl ?_
                        refine j_iconst 2 dX11_item_374 ic_2 ?_
                        refine j_aload_n 0 dX11_item_375 rfl ?_
                        refine j_getr (q := 21) dX11_item_376 fX11_87 (shM (Fm.M hs1 hM) sgM_0) rfl (rfM (Fm.M hs1 hM) rfM_0_29) ?_
                        refine j_iconst 0 dX11_item_379 ic_0 ?_
                        refine j_ialdN 0 dX11_item_380 (shM (Fm.M hs1 hM) sgM_21) (by omega) (by omega) ?_
                        refine j_topi (vv 0) (htl _ (by omega)) ?_
                        refine j_callV (kc := 0) (ks := 0) (a := 0) (b := 0) (d' := d) (As := [.int 2, .int (vv 0)]) dX11_item_381 kX11_177 rfl (shM (Fm.M hs1 hM) sgM_0) (by omega) rfl rfl rfl (Nat.le_of_ble_eq_true rfl) (Nat.le_of_ble_eq_true rfl) (T_tells2 (Fm.M hs1 hM) (vv 0)) (kk_pv ?_)
                        have sm472 : Fm PIt M (jk_wI M1 0 6 (vv 0)) := Fm.w hs1 (by unfold PIt PH PQr; omega)
                        refine j_goto (tgt := 409) dX11_item_384 rfl ?_
                        refine j_iconst 1 dX11_item_409 ic_1 ?_
                        refine j_zret dX11_item_410 rfl rfl ?_
                        have hmv : mv (jk_wI M1 0 6 (vv 0)).2.1 = apS S v (vv 0) (vv 1) (vv 2) := by
                          rw [hvk]
                          exact mv_sc (a := 3) hm1 (by decide) (by decide) (by decide) (by decide)
                        have h31e : (jk_wI M1 0 6 (vv 0)).2.1 0 31 = nI q := (rd_p (by omega)).trans h31b
                        exact hQ _ _ (Or.inl ⟨rfl, _, q, itS_3 hwd hr3 hn3, sm472, hmv, h31e⟩)
                      have hv10b : v = 0 ∨ v = 1 ∨ v = 2 ∨ v = 3 ∨ v = 4 ∨ v = 5 ∨ v = 6 ∨ v = 7 ∨ v = 8 ∨ v = 9 := by omega
                      exfalso
                      rcases hv10b with rfl | rfl | rfl | rfl | rfl | rfl | rfl | rfl | rfl | rfl
                      · exact c448 rfl
                      · exact c450 rfl
                      · exact c453 rfl
                      · exact c455 rfl
                      · exact c457 rfl
                      · exact c459 rfl
                      · exact c462 rfl
                      · exact c465 rfl
                      · exact c468 rfl
                      · exact c471 rfl
                    · refine j_iload_n 2 dX11_item_85 rfl ?_
                      refine j_if_leN (tgt := 139) i dX11_item_86 (by omega) rfl (fun c473 => ?_) (fun c473 => ?_)
                      · refine j_aload_n 0 dX11_item_139 rfl ?_
                        refine j_getv (nI (q + 1)) dX11_item_140 fX11_193 (shM (Fm.M hs1 hM) sgM_0) rfl (hpl.resolve_right (fun z => by omega)).2.1 ?_
                        refine j_istore_n (L' := [(3, .int (nI (q + 1))), (0, .ref 0), (1, .int (nI v)), (2, .int (nI i))]) dX11_item_143 (by decide) rfl ?_
                        have hmB : mv M1.2.1 = S := hm1
                        have hp1 : M1.2.1 0 31 = nI (q + 1) := (hpl.resolve_right (fun z => by omega)).2.1
                        have hsp : q < n ∧ t q = 32 := by first | exact ⟨by omega, by assumption⟩ | exact (hpl.resolve_right (fun z => by omega)).2.2
                        refine j_aload_n 1 dX11_item_144 rfl ?_
                        refine j_callV (kc := 0) (ks := 0) (a := 0) (b := 0) (d' := (d + 1)) (As := []) dX11_item_145 kX11_219 rfl (shM (Fm.M hs1 hM) sgM_0) (by omega) rfl rfl rfl (Nat.le_of_ble_eq_true rfl) (Nat.le_of_ble_eq_true rfl) (T_X11_reads (Fm.M hs1 hM) (RX.it rx hs1) hp1 (by omega)) (kk_o (fun M474 hM475 => ?_) (fun M476 hM477 => ?_))
                        · obtain ⟨hdg, h0R, h33, h31⟩ := hM475
                          have sm478 : Fm PIt M M474 := Fm.tr hs1 (Fm.mo h0R PQr_I)
                          have hmR : mv M474.2.1 = S := Fm.mv h0R hmB (fun q k h => by unfold PH at h; unfold PQr; omega)
                          refine j_if_ne (tgt := 153) dX11_item_148 rfl (fun c479 => ?_) (fun c479 => ?_)
                          · refine j_aload_n 1 dX11_item_153 rfl ?_
                            refine j_iload_n 2 dX11_item_154 rfl ?_
                            refine j_iload_n 3 dX11_item_155 rfl ?_
                            refine j_callV (kc := 0) (ks := 0) (a := 0) (b := 0) (d' := (d + 2)) (As := [.int (nI v), .int (nI i)]) dX11_item_156 kX11_222 rfl (shM (Fm.M sm478 hM) sgM_0) (by omega) rfl rfl rfl (Nat.le_of_ble_eq_true rfl) (Nat.le_of_ble_eq_true rfl) (T_X11_isSo (Fm.M sm478 hM) hmR ok (nuV_pos hdg) h33 (w := v) (i := i) hv10 (by omega)) (kk_p ?_)
                            refine j_if_neB (p := (mayS S (soN v i) (nuV n t (q + 1)).1)) (tgt := 168) dX11_item_159 rfl (fun c480 => ?_) (fun c480 => ?_)
                            · refine j_aload_n 1 dX11_item_168 rfl ?_
                              refine j_getr (q := 21) dX11_item_169 fX11_87 (shM (Fm.M sm478 hM) sgM_0) rfl (rfM (Fm.M sm478 hM) rfM_0_29) ?_
                              refine j_iload_n 3 dX11_item_172 rfl ?_
                              refine j_aload_n 1 dX11_item_173 rfl ?_
                              refine j_getv (nuV n t (q + 1)).1 dX11_item_174 fX11_202 (shM (Fm.M sm478 hM) sgM_0) rfl h33 ?_
                              refine j_iastN i dX11_item_177 (shM (Fm.M sm478 hM) sgM_21) (by omega) (by omega) ?_
                              have sm481 : Fm PIt M (jk_wI M474 21 i (nuV n t (q + 1)).1) := Fm.w sm478 (by unfold PIt PH PQr; omega)
                              refine j_iinc 3 (nI (i + 1)) (L' := [(2, .int (nI (i + 1))), (3, .int (nI (q + 1))), (0, .ref 0), (1, .int (nI v))]) dX11_item_178 rfl (inc1 i) (by decide) rfl ?_
                              refine j_goto (tgt := 75) dX11_item_181 rfl ?_
                              exact j_sub (jk_pick [2, 3, 0] rfl) (ih444 (i + 1) ((nuV n t (q + 1)).2) (va_up vv i (nuV n t (q + 1)).1) (jk_wI M474 21 i (nuV n t (q + 1)).1) (by omega) (by omega) (nuL_y hnu (so_n hv10 (by omega)) (nuS_3 hsp hdg (by assumption))) sm481 (Fm.mv (P := fun q k => q = 21) (Fm.w Fm.rf rfl) hmR (fun q k h z => by unfold PH at h; omega)) (fun k hk => by
          by_cases e : k = i
          · rw [e, rd_s, va_up_self]
          · rw [rd_k e, va_up_ne _ _ e, Fm.rd h0R (by unfold PQr; omega)]; first | exact htl k (by omega) | exact (rd_o (by decide)).trans (htl k (by omega))) (Or.inr ⟨by omega, (rd_o (by decide)).trans h31⟩) (nuS_in (nuS_3 hsp hdg (by assumption))).2.2.2)
                            · refine j_aload_n 1 dX11_item_162 rfl ?_
                              refine j_iload_n 0 dX11_item_163 rfl ?_
                              refine j_callV (kc := 0) (ks := 0) (a := 0) (b := 0) (d' := d) (As := [.int (nI (q + 1))]) dX11_item_164 kX11_209 rfl (shM (Fm.M sm478 hM) sgM_0) (by omega) rfl rfl rfl (Nat.le_of_ble_eq_true rfl) (Nat.le_of_ble_eq_true rfl) (T_X11_wrong (Fm.M sm478 hM) (nI (q + 1))) (kk_p ?_)
                              have sm482 : Fm PIt M (jk_wI M474 0 34 (nI (q + 1))) := Fm.w sm478 (by unfold PIt PH PQr; omega)
                              refine j_zret dX11_item_167 rfl rfl ?_
                              have hf : nuL S n t v (p + jk_sL.getD v 0) 3 = .inl (q + 1) := nu_stop (by omega) (nuL_n hnu (so_n hv10 (by omega)) (nuS_2 hsp hdg (by assumption)))
                              exact hQ _ _ (Or.inr ⟨rfl, q + 1, itS_2 hwd hr3 hf, sm482, rd_s⟩)
                          · exact absurd c479 (by decide)
                        · obtain ⟨hdg, h0R, h34⟩ := hM477
                          have sm483 : Fm PIt M M476 := Fm.tr hs1 (Fm.mo h0R PQr_I)
                          refine j_if_ne (tgt := 153) dX11_item_148 rfl (fun c484 => ?_) (fun c484 => ?_)
                          · exact absurd c484 (by decide)
                          · refine j_iconst 0 dX11_item_151 ic_0 ?_
                            refine j_zret dX11_item_152 rfl rfl ?_
                            have hf : nuL S n t v (p + jk_sL.getD v 0) 3 = .inl (q + 1) := nu_stop (by omega) (nuL_n hnu (so_n hv10 (by omega)) (nuS_1 hsp hdg))
                            exact hQ _ _ (Or.inr ⟨rfl, q + 1, itS_2 hwd hr3 hf, sm483, h34⟩)
                      · refine j_aload_n 0 dX11_item_89 rfl ?_
                        refine j_getv (nI q) dX11_item_90 fX11_193 (shM (Fm.M hs1 hM) sgM_0) rfl (hpl.resolve_left (fun z => by omega)).2 ?_
                        refine j_aload_n 0 dX11_item_93 rfl ?_
                        refine j_getv (nI n) dX11_item_94 fX11_196 (shM (Fm.M hs1 hM) sgM_0) rfl (RX.it rx hs1).2.2.2.1 ?_
                        refine j_icmp_geN (tgt := 120) q n dX11_item_97 rfl (by omega) (by omega) (fun c485 => ?_) (fun c485 => ?_)
                        · refine j_aload_n 0 dX11_item_120 rfl ?_
                          refine j_aload_n 0 dX11_item_121 rfl ?_
                          refine j_getv (nI q) dX11_item_122 fX11_193 (shM (Fm.M hs1 hM) sgM_0) rfl (hpl.resolve_left (fun z => by omega)).2 ?_
                          refine j_callV (kc := 0) (ks := 0) (a := 0) (b := 0) (d' := d) (As := [.int (nI q)]) dX11_item_125 kX11_209 rfl (shM (Fm.M hs1 hM) sgM_0) (by omega) rfl rfl rfl (Nat.le_of_ble_eq_true rfl) (Nat.le_of_ble_eq_true rfl) (T_X11_wrong (Fm.M hs1 hM) (nI q)) (kk_p ?_)
                          have sm486 : Fm PIt M (jk_wI M1 0 34 (nI q)) := Fm.w hs1 (by unfold PIt PH PQr; omega)
                          refine j_zret dX11_item_128 rfl rfl ?_
                          have hf : nuL S n t v (p + jk_sL.getD v 0) 3 = .inl q := nu_stop (by omega) (nuL_n hnu (so_n hv10 (by omega)) (nuS_0 (fun z => by have z1 := z.1; have z2 := z.2; first | omega | exact absurd z2 (by assumption))))
                          exact hQ _ _ (Or.inr ⟨rfl, q, itS_2 hwd hr3 hf, sm486, rd_s⟩)
                        · refine j_aload_n 0 dX11_item_100 rfl ?_
                          refine j_getr (q := 17) dX11_item_101 fX11_74 (shM (Fm.M hs1 hM) sgM_0) rfl (rfM (Fm.M hs1 hM) rfM_0_25) ?_
                          refine j_aload_n 0 dX11_item_104 rfl ?_
                          refine j_getv (nI b) dX11_item_105 fX11_199 (shM (Fm.M hs1 hM) sgM_0) rfl (RX.it rx hs1).2.2.1 ?_
                          refine j_aload_n 0 dX11_item_108 rfl ?_
                          refine j_getv (nI q) dX11_item_109 fX11_193 (shM (Fm.M hs1 hM) sgM_0) rfl (hpl.resolve_left (fun z => by omega)).2 ?_
                          refine j_iaddN b q dX11_item_112 ?_
                          refine j_laldN (b + q) dX11_item_113 (shM (Fm.M hs1 hM) sgM_17) (by omega) (by omega) ?_
                          refine j_l2i dX11_item_114 ?_
                          refine j_topi (t q) ((RX.it rx hs1).2.2.2.2.1 _ (by omega)) ?_
                          refine j_bipush 32 dX11_item_115 bp_32 ?_
                          refine j_icmp_eq (tgt := 129) dX11_item_117 rfl (fun c487 => ?_) (fun c487 => ?_)
                          · refine j_aload_n 0 dX11_item_129 rfl ?_
                            refine j_dup dX11_item_130 rfl ?_
                            refine j_getv (nI q) dX11_item_131 fX11_193 (shM (Fm.M hs1 hM) sgM_0) rfl (hpl.resolve_left (fun z => by omega)).2 ?_
                            refine j_iconst 1 dX11_item_134 ic_1 ?_
                            refine j_iaddN q 1 dX11_item_135 ?_
                            refine j_put dX11_item_136 fX11_193 (shM (Fm.M hs1 hM) sgM_0) rfl ?_
                            have sm488 : Fm PIt M (jk_wI M1 0 31 (nI (q + 1))) := Fm.w hs1 (by unfold PIt PH PQr; omega)
                            refine j_aload_n 0 dX11_item_139 rfl ?_
                            refine j_getv (nI (q + 1)) dX11_item_140 fX11_193 (shM (Fm.M sm488 hM) sgM_0) rfl rd_s ?_
                            refine j_istore_n (L' := [(3, .int (nI (q + 1))), (0, .ref 0), (1, .int (nI v)), (2, .int (nI i))]) dX11_item_143 (by decide) rfl ?_
                            have hmB : mv (jk_wI M1 0 31 (nI (q + 1))).2.1 = S := (Fm.mv (P := PQr) (Fm.w Fm.rf (by unfold PQr; omega)) hm1 (fun q k h => by unfold PH at h; unfold PQr; omega))
                            have hp1 : (jk_wI M1 0 31 (nI (q + 1))).2.1 0 31 = nI (q + 1) := rd_s
                            have hsp : q < n ∧ t q = 32 := by first | exact ⟨by omega, by assumption⟩ | exact (hpl.resolve_right (fun z => by omega)).2.2
                            refine j_aload_n 1 dX11_item_144 rfl ?_
                            refine j_callV (kc := 0) (ks := 0) (a := 0) (b := 0) (d' := (d + 1)) (As := []) dX11_item_145 kX11_219 rfl (shM (Fm.M sm488 hM) sgM_0) (by omega) rfl rfl rfl (Nat.le_of_ble_eq_true rfl) (Nat.le_of_ble_eq_true rfl) (T_X11_reads (Fm.M sm488 hM) (RX.it rx sm488) hp1 (by omega)) (kk_o (fun M489 hM490 => ?_) (fun M491 hM492 => ?_))
                            · obtain ⟨hdg, h0R, h33, h31⟩ := hM490
                              have sm493 : Fm PIt M M489 := Fm.tr sm488 (Fm.mo h0R PQr_I)
                              have hmR : mv M489.2.1 = S := Fm.mv h0R hmB (fun q k h => by unfold PH at h; unfold PQr; omega)
                              refine j_if_ne (tgt := 153) dX11_item_148 rfl (fun c494 => ?_) (fun c494 => ?_)
                              · refine j_aload_n 1 dX11_item_153 rfl ?_
                                refine j_iload_n 2 dX11_item_154 rfl ?_
                                refine j_iload_n 3 dX11_item_155 rfl ?_
                                refine j_callV (kc := 0) (ks := 0) (a := 0) (b := 0) (d' := (d + 2)) (As := [.int (nI v), .int (nI i)]) dX11_item_156 kX11_222 rfl (shM (Fm.M sm493 hM) sgM_0) (by omega) rfl rfl rfl (Nat.le_of_ble_eq_true rfl) (Nat.le_of_ble_eq_true rfl) (T_X11_isSo (Fm.M sm493 hM) hmR ok (nuV_pos hdg) h33 (w := v) (i := i) hv10 (by omega)) (kk_p ?_)
                                refine j_if_neB (p := (mayS S (soN v i) (nuV n t (q + 1)).1)) (tgt := 168) dX11_item_159 rfl (fun c495 => ?_) (fun c495 => ?_)
                                · refine j_aload_n 1 dX11_item_168 rfl ?_
                                  refine j_getr (q := 21) dX11_item_169 fX11_87 (shM (Fm.M sm493 hM) sgM_0) rfl (rfM (Fm.M sm493 hM) rfM_0_29) ?_
                                  refine j_iload_n 3 dX11_item_172 rfl ?_
                                  refine j_aload_n 1 dX11_item_173 rfl ?_
                                  refine j_getv (nuV n t (q + 1)).1 dX11_item_174 fX11_202 (shM (Fm.M sm493 hM) sgM_0) rfl h33 ?_
                                  refine j_iastN i dX11_item_177 (shM (Fm.M sm493 hM) sgM_21) (by omega) (by omega) ?_
                                  have sm496 : Fm PIt M (jk_wI M489 21 i (nuV n t (q + 1)).1) := Fm.w sm493 (by unfold PIt PH PQr; omega)
                                  refine j_iinc 3 (nI (i + 1)) (L' := [(2, .int (nI (i + 1))), (3, .int (nI (q + 1))), (0, .ref 0), (1, .int (nI v))]) dX11_item_178 rfl (inc1 i) (by decide) rfl ?_
                                  refine j_goto (tgt := 75) dX11_item_181 rfl ?_
                                  exact j_sub (jk_pick [2, 3, 0] rfl) (ih444 (i + 1) ((nuV n t (q + 1)).2) (va_up vv i (nuV n t (q + 1)).1) (jk_wI M489 21 i (nuV n t (q + 1)).1) (by omega) (by omega) (nuL_y hnu (so_n hv10 (by omega)) (nuS_3 hsp hdg (by assumption))) sm496 (Fm.mv (P := fun q k => q = 21) (Fm.w Fm.rf rfl) hmR (fun q k h z => by unfold PH at h; omega)) (fun k hk => by
          by_cases e : k = i
          · rw [e, rd_s, va_up_self]
          · rw [rd_k e, va_up_ne _ _ e, Fm.rd h0R (by unfold PQr; omega)]; first | exact htl k (by omega) | exact (rd_o (by decide)).trans (htl k (by omega))) (Or.inr ⟨by omega, (rd_o (by decide)).trans h31⟩) (nuS_in (nuS_3 hsp hdg (by assumption))).2.2.2)
                                · refine j_aload_n 1 dX11_item_162 rfl ?_
                                  refine j_iload_n 0 dX11_item_163 rfl ?_
                                  refine j_callV (kc := 0) (ks := 0) (a := 0) (b := 0) (d' := d) (As := [.int (nI (q + 1))]) dX11_item_164 kX11_209 rfl (shM (Fm.M sm493 hM) sgM_0) (by omega) rfl rfl rfl (Nat.le_of_ble_eq_true rfl) (Nat.le_of_ble_eq_true rfl) (T_X11_wrong (Fm.M sm493 hM) (nI (q + 1))) (kk_p ?_)
                                  have sm497 : Fm PIt M (jk_wI M489 0 34 (nI (q + 1))) := Fm.w sm493 (by unfold PIt PH PQr; omega)
                                  refine j_zret dX11_item_167 rfl rfl ?_
                                  have hf : nuL S n t v (p + jk_sL.getD v 0) 3 = .inl (q + 1) := nu_stop (by omega) (nuL_n hnu (so_n hv10 (by omega)) (nuS_2 hsp hdg (by assumption)))
                                  exact hQ _ _ (Or.inr ⟨rfl, q + 1, itS_2 hwd hr3 hf, sm497, rd_s⟩)
                              · exact absurd c494 (by decide)
                            · obtain ⟨hdg, h0R, h34⟩ := hM492
                              have sm498 : Fm PIt M M491 := Fm.tr sm488 (Fm.mo h0R PQr_I)
                              refine j_if_ne (tgt := 153) dX11_item_148 rfl (fun c499 => ?_) (fun c499 => ?_)
                              · exact absurd c499 (by decide)
                              · refine j_iconst 0 dX11_item_151 ic_0 ?_
                                refine j_zret dX11_item_152 rfl rfl ?_
                                have hf : nuL S n t v (p + jk_sL.getD v 0) 3 = .inl (q + 1) := nu_stop (by omega) (nuL_n hnu (so_n hv10 (by omega)) (nuS_1 hsp hdg))
                                exact hQ _ _ (Or.inr ⟨rfl, q + 1, itS_2 hwd hr3 hf, sm498, h34⟩)
                          · refine j_aload_n 0 dX11_item_120 rfl ?_
                            refine j_aload_n 0 dX11_item_121 rfl ?_
                            refine j_getv (nI q) dX11_item_122 fX11_193 (shM (Fm.M hs1 hM) sgM_0) rfl (hpl.resolve_left (fun z => by omega)).2 ?_
                            refine j_callV (kc := 0) (ks := 0) (a := 0) (b := 0) (d' := d) (As := [.int (nI q)]) dX11_item_125 kX11_209 rfl (shM (Fm.M hs1 hM) sgM_0) (by omega) rfl rfl rfl (Nat.le_of_ble_eq_true rfl) (Nat.le_of_ble_eq_true rfl) (T_X11_wrong (Fm.M hs1 hM) (nI q)) (kk_p ?_)
                            have sm500 : Fm PIt M (jk_wI M1 0 34 (nI q)) := Fm.w hs1 (by unfold PIt PH PQr; omega)
                            refine j_zret dX11_item_128 rfl rfl ?_
                            have hf : nuL S n t v (p + jk_sL.getD v 0) 3 = .inl q := nu_stop (by omega) (nuL_n hnu (so_n hv10 (by omega)) (nuS_0 (fun z => by have z1 := z.1; have z2 := z.2; first | omega | exact absurd z2 (by assumption))))
                            exact hQ _ _ (Or.inr ⟨rfl, q, itS_2 hwd hr3 hf, sm500, rd_s⟩)
                exact j_sub (jk_pick [2, 1, 0] rfl) (lp445 _ 0 (p + jk_sL.getD v 0) (fun _ => 0) (jk_wI M 0 31 (nI (p + jk_sL.getD v 0 + 1))) (Nat.lt_succ_self _) (Nat.zero_le _) rfl sm441 hmW (fun k hk => absurd hk (Nat.not_lt_zero k)) (Or.inl ⟨rfl, rd_s, hspc⟩) (by omega))
              · exact absurd c442 (nI_n1 (by omega))
            · refine j_aload_n 0 dX11_item_52 rfl ?_
              refine j_aload_n 0 dX11_item_53 rfl ?_
              refine j_getv (nI p) dX11_item_54 fX11_193 (shM hM sgM_0) rfl hp ?_
              refine j_callV (kc := 0) (ks := 0) (a := 0) (b := 0) (d' := d) (As := [.int (nI p)]) dX11_item_57 kX11_209 rfl (shM hM sgM_0) (by omega) rfl rfl rfl (Nat.le_of_ble_eq_true rfl) (Nat.le_of_ble_eq_true rfl) (T_X11_wrong hM (nI p)) (kk_p ?_)
              have sm501 : Fm PIt M (jk_wI M 0 34 (nI p)) := Fm.w Fm.rf (by unfold PIt PH PQr; omega)
              refine j_zret dX11_item_60 rfl rfl ?_
              exact hQ _ _ (Or.inr ⟨rfl, p, itS_1 (wd_of (w := 6) (by decide) (by assumption)) (fun z => by have q := z.2.2 rfl; omega), sm501, rd_s⟩)
theorem T_X11_item {d : Nat} {M : jk_M} {S : HS} (hM : WM M) (hS : mv M.2.1 = S) (ok : Sok S) {b n : Nat} {t : Nat → Int32} (rx : RX M b n t) {p : Nat} (hp : M.2.1 0 31 = nI p) (hpn : p ≤ n) : J Fr_X11_item (d + 3) 0 0 0 [(0, .ref 0)] [] M (jk_or (.int 1) (fun M1 => ∃ T q, itS S n t p = .inr (T, q) ∧ Fm PIt M M1 ∧ mv M1.2.1 = T ∧ M1.2.1 0 31 = nI q) (.int 0) (fun M1 => ∃ f, itS S n t p = .inl f ∧ Fm PIt M M1 ∧ M1.2.1 0 34 = nI f)) := by
  cases hv : wmN n t p 10 with
  | none => exact T_itemN hM hS ok rx hp hpn hv
  | some v => exact T_itemS hM hS ok rx hp hpn v hv
