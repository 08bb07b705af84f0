/-! shelves of the model, further -/
theorem MV.shw {M : jk_M} {Z : ZS} (cv : MV M Z) {k : Nat} (hk : k < 8) {a p : Int32} {g : Nat → Int32} (hg : shm a (M.2.1 14 k) (M.2.1 15 k) p g) : MV (jk_wI (jk_wI M 13 k a) 16 k p) (shZ Z k g (Z.2.2.2.1 k)) := by
  refine MV.sh cv rfl rfl (fun q j h => ?_) ?_ (cv.same hk)
  · rw [rd_p (by omega), rd_p (by omega)]
  · rw [rd_o (by decide), rd_s, rd_o (by decide), rd_o (by decide), rd_o (by decide), rd_o (by decide), rd_s]; exact hg
theorem carr_e {f : Nat → Int64} {g : Nat → Int64} {k : Nat} {x : Int64} {h : Nat → Int64} (hf : ∀ q, q < k → f q = h q) (hx : x = h k) : ∀ q, q < k + 1 → vp_updL f k x q = h q := fun q hq => by
  simp only [vp_updL]
  by_cases e : q = k
  · subst e; rw [if_pos rfl]; exact hx
  · rw [if_neg e]; exact hf q (by omega)
/-- a run so far -/
def RunO (L : Nat → Int64) (p q n : Nat) (g : Nat → Int64) : Prop := ∀ x, g x = if q ≤ x ∧ x < q + n then L (p + (x - q)) else L x
theorem RunO.st {L : Nat → Int64} {p q n : Nat} {g : Nat → Int64} {x : Int64} (h : RunO L p q n g) (hx : x = L (p + n)) : RunO L p q (n + 1) (vp_updL g (q + n) x) := fun y => by
  simp only [vp_updL]
  by_cases e : y = q + n
  · subst e; rw [if_pos rfl, if_pos (by omega), hx]; exact congrArg L (by omega)
  · rw [if_neg e, h y]
    by_cases c : q ≤ y ∧ y < q + n
    · rw [if_pos c, if_pos (by omega)]
    · rw [if_neg c, if_neg (by omega)]
theorem MV.cp {M : jk_M} {Z : ZS} (cv : MV M Z) {p q a b m : Nat} {f g : Nat → Int64} (hp : p < 8) (hq : q < 8) (ha : a + m ≤ 160) (hb : b + m ≤ 160) (hr : RunO (M.2.2.1 17) (160 * p + a) (160 * q + b) m g) : MV (jk_wC (jk_wC M 18 f) 17 g) (shZ Z q (Z.2.2.1 q) (va_cpy (Z.2.2.2.1 p) (Z.2.2.2.1 q) (nI a).toNatClampNeg (nI b).toNatClampNeg (nI m).toNatClampNeg)) := by
  refine MV.sh cv rfl rfl (fun q j h => rfl) (cv.2.2.2.1 q hq) (fun s hs i hi => ?_)
  rw [wC_at, hr, nI_clamp (by omega), nI_clamp (by omega), nI_clamp (by omega)]
  by_cases e : s = q
  · subst e
    rw [va_up_self]
    simp only [va_cpy]
    by_cases c : b ≤ i ∧ i < b + m
    · rw [if_pos c, if_pos (by omega), ← cv.el hp (show a + (i - b) < 160 by omega)]
      exact congrArg _ (by omega)
    · rw [if_neg c, if_neg (by omega)]; exact cv.el hs hi
  · rw [va_up_ne _ _ e, if_neg (by omega)]; exact cv.el hs hi
set_option maxRecDepth 20000 in
set_option maxHeartbeats 4000000 in
theorem N_show0 {d : Nat} {M : jk_M} {Z : ZS} (cv : MV M Z) (ok : Zok Z) (k : Nat) (hk : k < 8) : J Fr_X11_show (d + 1) 0 0 0 [(0, .ref 0), (1, .int (nI k)), (2, .int (-1))] [] M (jk_ex (some (.int (showK Z (-1) k).1)) (fun M1 => MV M1 (showK Z (-1) k).2)) := by
  refine j_post (fun Q hQ => ?_)
  have hM := cv.1
  have hS := cv.2.1
  have okS := ok.1
  have h40 := cv.2.2.2.2.2.2.2.2.2.2.1
  have hsk := shl_k hk
  have hsmk := shm_g (cv.2.2.2.1 k hk)
  have hzok := ok.sh hk
  have hzzk := shok0 hzok
  refine j_aload_n 0 dX11_show_0 rfl ?_
  refine j_iload_n 1 dX11_show_1 rfl ?_
  refine j_callV (kc := 0) (ks := 0) (a := 0) (b := 0) (d' := d) (As := [.int (nI k)]) dX11_show_2 kX11_126 rfl (shM hM sgM_0) (by omega) rfl rfl rfl (Nat.le_of_ble_eq_true rfl) (Nat.le_of_ble_eq_true rfl) (T_X11_isShelf (nI k)) (kk_p ?_)
  refine j_if_eqB (p := (0 ≤ (nI k) ∧ (nI k) < 8)) (tgt := 21) dX11_show_5 rfl (fun c1 => ?_) (fun c1 => ?_)
  · exact absurd hsk c1
  · refine j_iload_n 2 dX11_show_8 rfl ?_
    refine j_iconst (-1) dX11_show_9 ic_n1 ?_
    refine j_icmp_eq (tgt := 27) dX11_show_10 rfl (fun c2 => ?_) (fun c2 => ?_)
    · refine j_aload_n 0 dX11_show_27 rfl ?_
      refine j_getr (q := 13) dX11_show_28 fX11_62 (shM hM sgM_0) rfl (rfM hM rfM_0_21) ?_
      refine j_iload_n 1 dX11_show_31 rfl ?_
      refine j_iload_n 2 dX11_show_32 rfl ?_
      refine j_iconst (-1) dX11_show_33 ic_n1 ?_
      refine j_icmp_ne (tgt := 41) dX11_show_34 rfl (fun c3 => ?_) (fun c3 => ?_)
      · exact absurd c3 (by decide)
      · refine j_iconst 0 dX11_show_37 ic_0 ?_
        refine j_goto (tgt := 42) dX11_show_38 rfl ?_
        refine j_iastN k dX11_show_42 (shM hM sgM_13) (by omega) (by omega) ?_
        refine j_aload_n 0 dX11_show_43 rfl ?_
        refine j_getr (q := 16) dX11_show_44 fX11_71 (shM (WM.wI hM) sgM_0) rfl (rfM (WM.wI hM) rfM_0_24) ?_
        refine j_iload_n 1 dX11_show_47 rfl ?_
        refine j_iload_n 2 dX11_show_48 rfl ?_
        refine j_iastN k dX11_show_49 (shM (WM.wI hM) sgM_16) (by omega) (by omega) ?_
        refine j_iload_n 2 dX11_show_50 rfl ?_
        refine j_iconst (-1) dX11_show_51 ic_n1 ?_
        refine j_icmp_ne (tgt := 59) dX11_show_52 rfl (fun c4 => ?_) (fun c4 => ?_)
        · exact absurd c4 (by decide)
        · refine j_iconst 0 dX11_show_55 ic_0 ?_
          refine j_goto (tgt := 60) dX11_show_56 rfl ?_
          refine j_iret dX11_show_60 rfl ?_
          have hmv := MV.shw cv hk (a := 0) (p := (-1)) (g := (g3 (-1) 0 (-1))) (by unfold shm g3; clear hQ; grind)
          have hz : showK Z (-1) k = (0, (shZ Z k (g3 (-1) 0 (-1)) (Z.2.2.2.1 k))) := by
            clear hQ
            clear cv hM hS ok hmv
            grind [showK, cif]
          exact hQ _ _ ⟨by rw [hz], by rw [hz]; exact hmv⟩
    · exact absurd c2 (by decide)
set_option maxRecDepth 20000 in
set_option maxHeartbeats 4000000 in
theorem N_show1 {d : Nat} {M : jk_M} {Z : ZS} (cv : MV M Z) (ok : Zok Z) (k : Nat) (hk : k < 8) (t : Int32) (h1 : ¬ t = -1) (hx : 0 ≤ t ∧ t < nI (nT Z.1)) : J Fr_X11_show (d + 1) 0 0 0 [(0, .ref 0), (1, .int (nI k)), (2, .int t)] [] M (jk_ex (some (.int (showK Z t k).1)) (fun M1 => MV M1 (showK Z t k).2)) := by
  refine j_post (fun Q hQ => ?_)
  have hM := cv.1
  have hS := cv.2.1
  have okS := ok.1
  have h40 := cv.2.2.2.2.2.2.2.2.2.2.1
  have hsk := shl_k hk
  have hsmk := shm_g (cv.2.2.2.1 k hk)
  have hzok := ok.sh hk
  have hzzk := shok0 hzok
  refine j_aload_n 0 dX11_show_0 rfl ?_
  refine j_iload_n 1 dX11_show_1 rfl ?_
  refine j_callV (kc := 0) (ks := 0) (a := 0) (b := 0) (d' := d) (As := [.int (nI k)]) dX11_show_2 kX11_126 rfl (shM hM sgM_0) (by omega) rfl rfl rfl (Nat.le_of_ble_eq_true rfl) (Nat.le_of_ble_eq_true rfl) (T_X11_isShelf (nI k)) (kk_p ?_)
  refine j_if_eqB (p := (0 ≤ (nI k) ∧ (nI k) < 8)) (tgt := 21) dX11_show_5 rfl (fun c1 => ?_) (fun c1 => ?_)
  · exact absurd hsk c1
  · refine j_iload_n 2 dX11_show_8 rfl ?_
    refine j_iconst (-1) dX11_show_9 ic_n1 ?_
    refine j_icmp_eq (tgt := 27) dX11_show_10 rfl (fun c2 => ?_) (fun c2 => ?_)
    · exact absurd c2 h1
    · refine j_aload_n 0 dX11_show_13 rfl ?_
      refine j_iload_n 2 dX11_show_14 rfl ?_
      refine j_callV (kc := 0) (ks := 0) (a := 0) (b := 0) (d' := d) (As := [.int t]) dX11_show_15 kX11_134 rfl (shM hM sgM_0) (by omega) rfl rfl rfl (Nat.le_of_ble_eq_true rfl) (Nat.le_of_ble_eq_true rfl) (T_X11_isThing hM hS okS t) (kk_p ?_)
      refine j_if_neB (p := (0 ≤ t ∧ t < nI (nT Z.1))) (tgt := 27) dX11_show_18 rfl (fun c3 => ?_) (fun c3 => ?_)
      · refine j_aload_n 0 dX11_show_27 rfl ?_
        refine j_getr (q := 13) dX11_show_28 fX11_62 (shM hM sgM_0) rfl (rfM hM rfM_0_21) ?_
        refine j_iload_n 1 dX11_show_31 rfl ?_
        refine j_iload_n 2 dX11_show_32 rfl ?_
        refine j_iconst (-1) dX11_show_33 ic_n1 ?_
        refine j_icmp_ne (tgt := 41) dX11_show_34 rfl (fun c4 => ?_) (fun c4 => ?_)
        · refine j_iconst 2 dX11_show_41 ic_2 ?_
          refine j_iastN k dX11_show_42 (shM hM sgM_13) (by omega) (by omega) ?_
          refine j_aload_n 0 dX11_show_43 rfl ?_
          refine j_getr (q := 16) dX11_show_44 fX11_71 (shM (WM.wI hM) sgM_0) rfl (rfM (WM.wI hM) rfM_0_24) ?_
          refine j_iload_n 1 dX11_show_47 rfl ?_
          refine j_iload_n 2 dX11_show_48 rfl ?_
          refine j_iastN k dX11_show_49 (shM (WM.wI hM) sgM_16) (by omega) (by omega) ?_
          refine j_iload_n 2 dX11_show_50 rfl ?_
          refine j_iconst (-1) dX11_show_51 ic_n1 ?_
          refine j_icmp_ne (tgt := 59) dX11_show_52 rfl (fun c5 => ?_) (fun c5 => ?_)
          · refine j_iconst 1 dX11_show_59 ic_1 ?_
            refine j_iret dX11_show_60 rfl ?_
            have hmv := MV.shw cv hk (a := 2) (p := t) (g := (g3 (-1) 0 t)) (by unfold shm g3; clear hQ; grind)
            have hz : showK Z t k = (1, (shZ Z k (g3 (-1) 0 t) (Z.2.2.2.1 k))) := by
              clear hQ
              clear cv hM hS ok hmv
              grind [showK, cif]
            exact hQ _ _ ⟨by rw [hz], by rw [hz]; exact hmv⟩
          · exact absurd c5 h1
        · exact absurd c4 h1
      · exact absurd hx c3
set_option maxRecDepth 20000 in
set_option maxHeartbeats 4000000 in
theorem N_show2 {d : Nat} {M : jk_M} {Z : ZS} (cv : MV M Z) (ok : Zok Z) (k : Nat) (hk : k < 8) (t : Int32) (h1 : ¬ t = -1) (hx : ¬ (0 ≤ t ∧ t < nI (nT Z.1))) : J Fr_X11_show (d + 1) 0 0 0 [(0, .ref 0), (1, .int (nI k)), (2, .int t)] [] M (jk_ex (some (.int (showK Z t k).1)) (fun M1 => MV M1 (showK Z t k).2)) := by
  refine j_post (fun Q hQ => ?_)
  have hM := cv.1
  have hS := cv.2.1
  have okS := ok.1
  have h40 := cv.2.2.2.2.2.2.2.2.2.2.1
  have hsk := shl_k hk
  have hsmk := shm_g (cv.2.2.2.1 k hk)
  have hzok := ok.sh hk
  have hzzk := shok0 hzok
  refine j_aload_n 0 dX11_show_0 rfl ?_
  refine j_iload_n 1 dX11_show_1 rfl ?_
  refine j_callV (kc := 0) (ks := 0) (a := 0) (b := 0) (d' := d) (As := [.int (nI k)]) dX11_show_2 kX11_126 rfl (shM hM sgM_0) (by omega) rfl rfl rfl (Nat.le_of_ble_eq_true rfl) (Nat.le_of_ble_eq_true rfl) (T_X11_isShelf (nI k)) (kk_p ?_)
  refine j_if_eqB (p := (0 ≤ (nI k) ∧ (nI k) < 8)) (tgt := 21) dX11_show_5 rfl (fun c1 => ?_) (fun c1 => ?_)
  · exact absurd hsk c1
  · refine j_iload_n 2 dX11_show_8 rfl ?_
    refine j_iconst (-1) dX11_show_9 ic_n1 ?_
    refine j_icmp_eq (tgt := 27) dX11_show_10 rfl (fun c2 => ?_) (fun c2 => ?_)
    · exact absurd c2 h1
    · refine j_aload_n 0 dX11_show_13 rfl ?_
      refine j_iload_n 2 dX11_show_14 rfl ?_
      refine j_callV (kc := 0) (ks := 0) (a := 0) (b := 0) (d' := d) (As := [.int t]) dX11_show_15 kX11_134 rfl (shM hM sgM_0) (by omega) rfl rfl rfl (Nat.le_of_ble_eq_true rfl) (Nat.le_of_ble_eq_true rfl) (T_X11_isThing hM hS okS t) (kk_p ?_)
      refine j_if_neB (p := (0 ≤ t ∧ t < nI (nT Z.1))) (tgt := 27) dX11_show_18 rfl (fun c3 => ?_) (fun c3 => ?_)
      · exact absurd c3 hx
      · refine j_aload_n 0 dX11_show_21 rfl ?_
        refine j_iconst (-1) dX11_show_22 ic_n1 ?_
        refine j_callV (kc := 0) (ks := 0) (a := 0) (b := 0) (d' := d) (As := [.int (-1)]) dX11_show_23 kX11_130 rfl (shM hM sgM_0) (by omega) rfl rfl rfl (Nat.le_of_ble_eq_true rfl) (Nat.le_of_ble_eq_true rfl) (T_X11_no hM (-1) (by decide)) (kk_p ?_)
        refine j_iret dX11_show_26 rfl ?_
        have hz : showK Z t k = ((-1), (refZ Z (-1))) := by
          clear hQ
          clear cv hM hS ok
          grind [showK, cif]
        exact hQ _ _ ⟨by rw [hz], by rw [hz]; exact MV.rf cv (by decide)⟩
set_option maxRecDepth 20000 in
set_option maxHeartbeats 4000000 in
theorem N_showN {d : Nat} {M : jk_M} {Z : ZS} (cv : MV M Z) (ok : Zok Z) (s t : Int32) (hs : ¬ (0 ≤ s ∧ s < 8)) : J Fr_X11_show (d + 1) 0 0 0 [(0, .ref 0), (1, .int s), (2, .int t)] [] M (jk_ex (some (.int (((-1 : Int32), refZ Z (-1))).1)) (fun M1 => MV M1 (((-1 : Int32), refZ Z (-1))).2)) := by
  refine j_post (fun Q hQ => ?_)
  have hM := cv.1
  have hS := cv.2.1
  have okS := ok.1
  have h40 := cv.2.2.2.2.2.2.2.2.2.2.1
  refine j_aload_n 0 dX11_show_0 rfl ?_
  refine j_iload_n 1 dX11_show_1 rfl ?_
  refine j_callV (kc := 0) (ks := 0) (a := 0) (b := 0) (d' := d) (As := [.int s]) dX11_show_2 kX11_126 rfl (shM hM sgM_0) (by omega) rfl rfl rfl (Nat.le_of_ble_eq_true rfl) (Nat.le_of_ble_eq_true rfl) (T_X11_isShelf s) (kk_p ?_)
  refine j_if_eqB (p := (0 ≤ s ∧ s < 8)) (tgt := 21) dX11_show_5 rfl (fun c1 => ?_) (fun c1 => ?_)
  · refine j_aload_n 0 dX11_show_21 rfl ?_
    refine j_iconst (-1) dX11_show_22 ic_n1 ?_
    refine j_callV (kc := 0) (ks := 0) (a := 0) (b := 0) (d' := d) (As := [.int (-1)]) dX11_show_23 kX11_130 rfl (shM hM sgM_0) (by omega) rfl rfl rfl (Nat.le_of_ble_eq_true rfl) (Nat.le_of_ble_eq_true rfl) (T_X11_no hM (-1) (by decide)) (kk_p ?_)
    refine j_iret dX11_show_26 rfl ?_
    exact hQ _ _ ⟨rfl, MV.rf cv (by decide)⟩
  · exact absurd c1 hs
theorem N_show {d : Nat} {M : jk_M} {Z : ZS} (cv : MV M Z) (ok : Zok Z) (s t : Int32) : J Fr_X11_show (d + 1) 0 0 0 [(0, .ref 0), (1, .int s), (2, .int t)] [] M (jk_ex (some (.int (showZ Z s t).1)) (fun M1 => MV M1 (showZ Z s t).2)) := by
  by_cases h : 0 ≤ s ∧ s < 8
  · obtain ⟨k, hk, rfl⟩ := s_in h
    rw [showZ, inS_y hk]
    by_cases h1 : t = -1
    · subst h1; exact N_show0 cv ok k hk
    · by_cases h2 : 0 ≤ t ∧ t < nI (nT Z.1)
      · exact N_show1 cv ok k hk t h1 h2
      · exact N_show2 cv ok k hk t h1 h2
  · rw [showZ, inS_n h]; exact N_showN cv ok s t h
set_option maxRecDepth 20000 in
set_option maxHeartbeats 4000000 in
theorem N_holdsY {d : Nat} {M : jk_M} {Z : ZS} (cv : MV M Z) (ok : Zok Z) (k : Nat) (hk : k < 8) : J Fr_X11_holds (d + 1) 0 0 0 [(0, .ref 0), (1, .int (nI k))] [] M (jk_ex (some (.int (((cif (¬ Z.2.2.1 k 0 = -1) (100 + Z.2.2.1 k 0) (Z.2.2.1 k 2) : Int32), Z)).1)) (fun M1 => MV M1 (((cif (¬ Z.2.2.1 k 0 = -1) (100 + Z.2.2.1 k 0) (Z.2.2.1 k 2) : Int32), Z)).2)) := by
  refine j_post (fun Q hQ => ?_)
  have hM := cv.1
  have hS := cv.2.1
  have okS := ok.1
  have h40 := cv.2.2.2.2.2.2.2.2.2.2.1
  have hsk := shl_k hk
  have hsmk := shm_g (cv.2.2.2.1 k hk)
  have hzok := ok.sh hk
  have hzzk := shok0 hzok
  refine j_aload_n 0 dX11_holds_0 rfl ?_
  refine j_iload_n 1 dX11_holds_1 rfl ?_
  refine j_callV (kc := 0) (ks := 0) (a := 0) (b := 0) (d' := d) (As := [.int (nI k)]) dX11_holds_2 kX11_126 rfl (shM hM sgM_0) (by omega) rfl rfl rfl (Nat.le_of_ble_eq_true rfl) (Nat.le_of_ble_eq_true rfl) (T_X11_isShelf (nI k)) (kk_p ?_)
  refine j_if_eqB (p := (0 ≤ (nI k) ∧ (nI k) < 8)) (tgt := 17) dX11_holds_5 rfl (fun c1 => ?_) (fun c1 => ?_)
  · exact absurd hsk c1
  · refine j_aload_n 0 dX11_holds_8 rfl ?_
    refine j_getr (q := 13) dX11_holds_9 fX11_62 (shM hM sgM_0) rfl (rfM hM rfM_0_21) ?_
    refine j_iload_n 1 dX11_holds_12 rfl ?_
    refine j_ialdN k dX11_holds_13 (shM hM sgM_13) (by omega) (by omega) ?_
    refine j_if_ne (tgt := 19) dX11_holds_14 rfl (fun c2 => ?_) (fun c2 => ?_)
    · refine j_aload_n 0 dX11_holds_19 rfl ?_
      refine j_getr (q := 13) dX11_holds_20 fX11_62 (shM hM sgM_0) rfl (rfM hM rfM_0_21) ?_
      refine j_iload_n 1 dX11_holds_23 rfl ?_
      refine j_ialdN k dX11_holds_24 (shM hM sgM_13) (by omega) (by omega) ?_
      refine j_iconst 1 dX11_holds_25 ic_1 ?_
      refine j_icmp_ne (tgt := 41) dX11_holds_26 rfl (fun c3 => ?_) (fun c3 => ?_)
      · refine j_aload_n 0 dX11_holds_41 rfl ?_
        refine j_getr (q := 16) dX11_holds_42 fX11_71 (shM hM sgM_0) rfl (rfM hM rfM_0_24) ?_
        refine j_iload_n 1 dX11_holds_45 rfl ?_
        refine j_ialdN k dX11_holds_46 (shM hM sgM_16) (by omega) (by omega) ?_
        refine j_iret dX11_holds_47 rfl ?_
        have hz : (cif (¬ Z.2.2.1 k 0 = -1) (100 + Z.2.2.1 k 0) (Z.2.2.1 k 2) : Int32) = (M.2.1 16 k) := by
          clear hQ cv hM hS ok
          grind [cif]
        exact hQ _ _ ⟨by rw [hz], cv⟩
      · refine j_bipush 100 dX11_holds_29 bp_100 ?_
        refine j_aload_n 0 dX11_holds_31 rfl ?_
        refine j_getr (q := 14) dX11_holds_32 fX11_65 (shM hM sgM_0) rfl (rfM hM rfM_0_22) ?_
        refine j_iload_n 1 dX11_holds_35 rfl ?_
        refine j_ialdN k dX11_holds_36 (shM hM sgM_14) (by omega) (by omega) ?_
        refine j_iadd dX11_holds_37 ?_
        refine j_goto (tgt := 47) dX11_holds_38 rfl ?_
        refine j_iret dX11_holds_47 rfl ?_
        have hz : (cif (¬ Z.2.2.1 k 0 = -1) (100 + Z.2.2.1 k 0) (Z.2.2.1 k 2) : Int32) = (100 + (M.2.1 14 k)) := by
          clear hQ cv hM hS ok
          grind [cif]
        exact hQ _ _ ⟨by rw [hz], cv⟩
    · refine j_iconst (-1) dX11_holds_17 ic_n1 ?_
      refine j_iret dX11_holds_18 rfl ?_
      have hz : (cif (¬ Z.2.2.1 k 0 = -1) (100 + Z.2.2.1 k 0) (Z.2.2.1 k 2) : Int32) = (-1) := by
        clear hQ cv hM hS ok
        grind [cif]
      exact hQ _ _ ⟨by rw [hz], cv⟩
set_option maxRecDepth 20000 in
set_option maxHeartbeats 4000000 in
theorem N_holdsN {d : Nat} {M : jk_M} {Z : ZS} (cv : MV M Z) (ok : Zok Z) (s : Int32) (hs : ¬ (0 ≤ s ∧ s < 8)) : J Fr_X11_holds (d + 1) 0 0 0 [(0, .ref 0), (1, .int s)] [] M (jk_ex (some (.int (((-1 : Int32), Z)).1)) (fun M1 => MV M1 (((-1 : Int32), Z)).2)) := by
  refine j_post (fun Q hQ => ?_)
  have hM := cv.1
  have hS := cv.2.1
  have okS := ok.1
  have h40 := cv.2.2.2.2.2.2.2.2.2.2.1
  refine j_aload_n 0 dX11_holds_0 rfl ?_
  refine j_iload_n 1 dX11_holds_1 rfl ?_
  refine j_callV (kc := 0) (ks := 0) (a := 0) (b := 0) (d' := d) (As := [.int s]) dX11_holds_2 kX11_126 rfl (shM hM sgM_0) (by omega) rfl rfl rfl (Nat.le_of_ble_eq_true rfl) (Nat.le_of_ble_eq_true rfl) (T_X11_isShelf s) (kk_p ?_)
  refine j_if_eqB (p := (0 ≤ s ∧ s < 8)) (tgt := 17) dX11_holds_5 rfl (fun c1 => ?_) (fun c1 => ?_)
  · refine j_iconst (-1) dX11_holds_17 ic_n1 ?_
    refine j_iret dX11_holds_18 rfl ?_
    exact hQ _ _ ⟨rfl, cv⟩
  · exact absurd c1 hs
theorem N_holds {d : Nat} {M : jk_M} {Z : ZS} (cv : MV M Z) (ok : Zok Z) (s : Int32) : J Fr_X11_holds (d + 1) 0 0 0 [(0, .ref 0), (1, .int s)] [] M (jk_ex (some (.int (holdsZ Z s).1)) (fun M1 => MV M1 (holdsZ Z s).2)) := by
  by_cases h : 0 ≤ s ∧ s < 8
  · obtain ⟨k, hk, rfl⟩ := s_in h
    rw [holdsZ, cif_t (shl_k hk), nI_clamp (by omega)]; exact N_holdsY cv ok k hk
  · rw [holdsZ, cif_f h]; exact N_holdsN cv ok s h
set_option maxRecDepth 20000 in
set_option maxHeartbeats 4000000 in
theorem N_says1 {d : Nat} {M : jk_M} {Z : ZS} (cv : MV M Z) (ok : Zok Z) (k : Nat) (hk : k < 8) (q : Int32) (i : Nat) (hi : i < nT Z.1) (hp : Z.2.2.1 k 2 = nI i) (hneg : Z.2.2.1 k 0 = -1) (hn1 : ¬ Z.2.2.1 k 2 = -1) : J Fr_X11_says (d + 3) 0 0 0 [(0, .ref 0), (1, .int (nI k)), (2, .int q)] [] M (jk_ex (some (.int (saysK Z q k).1)) (fun M1 => MV M1 (saysK Z q k).2)) := by
  refine j_post (fun Q hQ => ?_)
  have hM := cv.1
  have hS := cv.2.1
  have okS := ok.1
  have h40 := cv.2.2.2.2.2.2.2.2.2.2.1
  have hsk := shl_k hk
  have hsmk := shm_g (cv.2.2.2.1 k hk)
  have hzok := ok.sh hk
  have hzzk := shok0 hzok
  have hT := (Sok.T okS).2
  have hh2 : M.2.1 13 k = 2 := by clear hQ; grind
  have hsh : M.2.1 16 k = Z.2.2.1 k 2 := by clear hQ; grind
  refine j_aload_n 0 dX11_says_0 rfl ?_
  refine j_iload_n 1 dX11_says_1 rfl ?_
  refine j_callV (kc := 0) (ks := 0) (a := 0) (b := 0) (d' := d) (As := [.int (nI k)]) dX11_says_2 kX11_126 rfl (shM hM sgM_0) (by omega) rfl rfl rfl (Nat.le_of_ble_eq_true rfl) (Nat.le_of_ble_eq_true rfl) (T_X11_isShelf (nI k)) (kk_p ?_)
  refine j_if_eqB (p := (0 ≤ (nI k) ∧ (nI k) < 8)) (tgt := 18) dX11_says_5 rfl (fun c1 => ?_) (fun c1 => ?_)
  · exact absurd hsk c1
  · refine j_iload_n 2 dX11_says_8 rfl ?_
    refine j_if_lt (tgt := 18) dX11_says_9 rfl (fun c2 => ?_) (fun c2 => ?_)
    · refine j_aload_n 0 dX11_says_18 rfl ?_
      refine j_iconst (-1) dX11_says_19 ic_n1 ?_
      refine j_callV (kc := 0) (ks := 0) (a := 0) (b := 0) (d' := d) (As := [.int (-1)]) dX11_says_20 kX11_130 rfl (shM hM sgM_0) (by omega) rfl rfl rfl (Nat.le_of_ble_eq_true rfl) (Nat.le_of_ble_eq_true rfl) (T_X11_no hM (-1) (by decide)) (kk_p ?_)
      refine j_iret dX11_says_23 rfl ?_
      have hz : saysK Z q k = ((-1), (refZ Z (-1))) := by
        clear hQ
        clear cv hM hS ok
        have h01 := (okS.th hi).2.2.2
        have hcl := nI_clamp (show i < 2 ^ 31 by omega)
        have hin := i_ok hi (show nT Z.1 < 2 ^ 31 by omega)
        have hone := one_all (q := q) (okS.th hi).1
        have hsf := sfar_c (c := Z.1 12 i)
        rw [← hp] at hin hcl
        grind [saysK, cif, saysI, inZ, humT, lossT, may_1]
      exact hQ _ _ ⟨by rw [hz], by rw [hz]; exact MV.rf cv (by decide)⟩
    · refine j_iload_n 2 dX11_says_12 rfl ?_
      refine j_bipush 6 dX11_says_13 bp_6 ?_
      refine j_icmp_le (tgt := 24) dX11_says_15 rfl (fun c3 => ?_) (fun c3 => ?_)
      · refine j_aload_n 0 dX11_says_24 rfl ?_
        refine j_getr (q := 13) dX11_says_25 fX11_62 (shM hM sgM_0) rfl (rfM hM rfM_0_21) ?_
        refine j_iload_n 1 dX11_says_28 rfl ?_
        refine j_ialdN k dX11_says_29 (shM hM sgM_13) (by omega) (by omega) ?_
        refine j_topi 2 hh2 ?_
        refine j_iconst 1 dX11_says_30 ic_1 ?_
        refine j_icmp_ne (tgt := 41) dX11_says_31 rfl (fun c4 => ?_) (fun c4 => ?_)
        · refine j_aload_n 0 dX11_says_41 rfl ?_
          refine j_getr (q := 13) dX11_says_42 fX11_62 (shM hM sgM_0) rfl (rfM hM rfM_0_21) ?_
          refine j_iload_n 1 dX11_says_45 rfl ?_
          refine j_ialdN k dX11_says_46 (shM hM sgM_13) (by omega) (by omega) ?_
          refine j_topi 2 hh2 ?_
          refine j_if_ne (tgt := 57) dX11_says_47 rfl (fun c5 => ?_) (fun c5 => ?_)
          · refine j_aload_n 0 dX11_says_57 rfl ?_
            refine j_getr (q := 16) dX11_says_58 fX11_71 (shM hM sgM_0) rfl (rfM hM rfM_0_24) ?_
            refine j_iload_n 1 dX11_says_61 rfl ?_
            refine j_ialdN k dX11_says_62 (shM hM sgM_16) (by omega) (by omega) ?_
            refine j_topi (nI i) (hsh.trans hp) ?_
            refine j_istore_n (L' := [(3, .int (nI i)), (0, .ref 0), (1, .int (nI k)), (2, .int q)]) dX11_says_63 (by decide) rfl ?_
            refine j_aload_n 1 dX11_says_64 rfl ?_
            refine j_getr (q := 2) dX11_says_65 fX11_29 (shM hM sgM_0) rfl (rfM hM rfM_0_10) ?_
            refine j_iload_n 0 dX11_says_68 rfl ?_
            refine j_ialdN i dX11_says_69 (shM hM sgM_2) (by omega) (by omega) ?_
            refine j_topi (Z.1 10 i) (mr_arT hS (k := 0) (by omega) (by decide)) ?_
            refine j_istore (L' := [(4, .int (Z.1 10 i)), (3, .int (nI i)), (0, .ref 0), (1, .int (nI k)), (2, .int q)]) dX11_says_70 (by decide) rfl ?_
            refine j_iload_n 4 dX11_says_72 rfl ?_
            refine j_iconst 1 dX11_says_73 ic_1 ?_
            refine j_icmp_ne (tgt := 83) dX11_says_74 rfl (fun c6 => ?_) (fun c6 => ?_)
            · refine j_iload_n 4 dX11_says_83 rfl ?_
              refine j_iconst 2 dX11_says_84 ic_2 ?_
              refine j_icmp_ne (tgt := 94) dX11_says_85 rfl (fun c7 => ?_) (fun c7 => ?_)
              · refine j_iload_n 4 dX11_says_94 rfl ?_
                refine j_iconst 4 dX11_says_95 ic_4 ?_
                refine j_icmp_ne (tgt := 110) dX11_says_96 rfl (fun c8 => ?_) (fun c8 => ?_)
                · refine j_iconst 0 dX11_says_110 ic_0 ?_
                  refine j_istore (L' := [(5, .int 0), (4, .int (Z.1 10 i)), (3, .int (nI i)), (0, .ref 0), (1, .int (nI k)), (2, .int q)]) dX11_says_111 (by decide) rfl ?_
                  refine j_iload_n 5 dX11_says_113 rfl ?_
                  refine j_if_eq (tgt := 135) dX11_says_114 rfl (fun c9 => ?_) (fun c9 => ?_)
                  · refine j_iload_n 5 dX11_says_135 rfl ?_
                    by_cases c11 : q = 0
                    · refine j_tableIn (tgt := 180) dX11_says_136 (by rw [c11]; decide) (by rw [c11]; decide) (off := 44) (by rw [c11]; decide) rfl ?_
                      refine j_aload_n 3 dX11_says_180 rfl ?_
                      refine j_getr (q := 4) dX11_says_181 fX11_35 (shM hM sgM_0) rfl (rfM hM rfM_0_12) ?_
                      refine j_iload_n 2 dX11_says_184 rfl ?_
                      refine j_ialdN i dX11_says_185 (shM hM sgM_4) (by omega) (by omega) ?_
                      refine j_topi (Z.1 12 i) (mr_arT hS (k := 2) (by omega) (by decide)) ?_
                      refine j_iret dX11_says_186 rfl ?_
                      have hz : saysK Z q k = ((Z.1 12 i), Z) := by
                        clear hQ
                        clear cv hM hS ok
                        have h01 := (okS.th hi).2.2.2
                        have hcl := nI_clamp (show i < 2 ^ 31 by omega)
                        have hin := i_ok hi (show nT Z.1 < 2 ^ 31 by omega)
                        have hone := one_all (q := q) (okS.th hi).1
                        have hsf := sfar_c (c := Z.1 12 i)
                        rw [← hp] at hin hcl
                        grind [saysK, cif, saysI, inZ, humT, lossT, may_1]
                      exact hQ _ _ ⟨by rw [hz], by rw [hz]; exact cv⟩
                    by_cases c12 : q = 1
                    · refine j_tableIn (tgt := 206) dX11_says_136 (by rw [c12]; decide) (by rw [c12]; decide) (off := 70) (by rw [c12]; decide) rfl ?_
                      refine j_aload_n 3 dX11_says_206 rfl ?_
                      refine j_iload_n 2 dX11_says_207 rfl ?_
                      refine j_callV (kc := 0) (ks := 0) (a := 0) (b := 0) (d' := d) (As := [.int (nI i)]) dX11_says_208 kX11_141 rfl (shM hM sgM_0) (by omega) rfl rfl rfl (Nat.le_of_ble_eq_true rfl) (Nat.le_of_ble_eq_true rfl) (T_X11_loss hM hS okS i (by omega)) (kk_p ?_)
                      refine j_iret dX11_says_211 rfl ?_
                      have hz : saysK Z q k = ((lossT Z.1 i), Z) := by
                        clear hQ
                        clear cv hM hS ok
                        have h01 := (okS.th hi).2.2.2
                        have hcl := nI_clamp (show i < 2 ^ 31 by omega)
                        have hin := i_ok hi (show nT Z.1 < 2 ^ 31 by omega)
                        have hone := one_all (q := q) (okS.th hi).1
                        have hsf := sfar_c (c := Z.1 12 i)
                        rw [← hp] at hin hcl
                        grind [saysK, cif, saysI, inZ, humT, lossT, may_1]
                      exact hQ _ _ ⟨by rw [hz], by rw [hz]; exact cv⟩
                    by_cases c13 : q = 2
                    · refine j_tableIn (tgt := 187) dX11_says_136 (by rw [c13]; decide) (by rw [c13]; decide) (off := 51) (by rw [c13]; decide) rfl ?_
                      refine j_aload_n 3 dX11_says_187 rfl ?_
                      refine j_getr (q := 5) dX11_says_188 fX11_38 (shM hM sgM_0) rfl (rfM hM rfM_0_13) ?_
                      refine j_iload_n 2 dX11_says_191 rfl ?_
                      refine j_ialdN i dX11_says_192 (shM hM sgM_5) (by omega) (by omega) ?_
                      refine j_topi (Z.1 13 i) (mr_arT hS (k := 3) (by omega) (by decide)) ?_
                      refine j_iret dX11_says_193 rfl ?_
                      have hz : saysK Z q k = ((Z.1 13 i), Z) := by
                        clear hQ
                        clear cv hM hS ok
                        have h01 := (okS.th hi).2.2.2
                        have hcl := nI_clamp (show i < 2 ^ 31 by omega)
                        have hin := i_ok hi (show nT Z.1 < 2 ^ 31 by omega)
                        have hone := one_all (q := q) (okS.th hi).1
                        have hsf := sfar_c (c := Z.1 12 i)
                        rw [← hp] at hin hcl
                        grind [saysK, cif, saysI, inZ, humT, lossT, may_1]
                      exact hQ _ _ ⟨by rw [hz], by rw [hz]; exact cv⟩
                    by_cases c14 : q = 3
                    · refine j_tableIn (tgt := 206) dX11_says_136 (by rw [c14]; decide) (by rw [c14]; decide) (off := 70) (by rw [c14]; decide) rfl ?_
                      refine j_aload_n 3 dX11_says_206 rfl ?_
                      refine j_iload_n 2 dX11_says_207 rfl ?_
                      refine j_callV (kc := 0) (ks := 0) (a := 0) (b := 0) (d' := d) (As := [.int (nI i)]) dX11_says_208 kX11_141 rfl (shM hM sgM_0) (by omega) rfl rfl rfl (Nat.le_of_ble_eq_true rfl) (Nat.le_of_ble_eq_true rfl) (T_X11_loss hM hS okS i (by omega)) (kk_p ?_)
                      refine j_iret dX11_says_211 rfl ?_
                      have hz : saysK Z q k = ((lossT Z.1 i), Z) := by
                        clear hQ
                        clear cv hM hS ok
                        have h01 := (okS.th hi).2.2.2
                        have hcl := nI_clamp (show i < 2 ^ 31 by omega)
                        have hin := i_ok hi (show nT Z.1 < 2 ^ 31 by omega)
                        have hone := one_all (q := q) (okS.th hi).1
                        have hsf := sfar_c (c := Z.1 12 i)
                        rw [← hp] at hin hcl
                        grind [saysK, cif, saysI, inZ, humT, lossT, may_1]
                      exact hQ _ _ ⟨by rw [hz], by rw [hz]; exact cv⟩
                    by_cases c15 : q = 4
                    · refine j_tableIn (tgt := 194) dX11_says_136 (by rw [c15]; decide) (by rw [c15]; decide) (off := 58) (by rw [c15]; decide) rfl ?_
                      refine j_aload_n 3 dX11_says_194 rfl ?_
                      refine j_iload_n 2 dX11_says_195 rfl ?_
                      refine j_aload_n 3 dX11_says_196 rfl ?_
                      refine j_getr (q := 4) dX11_says_197 fX11_35 (shM hM sgM_0) rfl (rfM hM rfM_0_12) ?_
                      refine j_iload_n 2 dX11_says_200 rfl ?_
                      refine j_ialdN i dX11_says_201 (shM hM sgM_4) (by omega) (by omega) ?_
                      refine j_topi (Z.1 12 i) (mr_arT hS (k := 2) (by omega) (by decide)) ?_
                      refine j_callV (kc := 0) (ks := 0) (a := 0) (b := 0) (d' := (d + 2)) (As := [.int (nI i), .int (Z.1 12 i)]) dX11_says_202 kX11_137 rfl (shM hM sgM_0) (by omega) rfl rfl rfl (Nat.le_of_ble_eq_true rfl) (Nat.le_of_ble_eq_true rfl) (T_X11_hums hM hS okS i (by omega) (Z.1 12 i) (isC_P okS (okS.th hi).2.2.1)) (kk_p ?_)
                      refine j_iret dX11_says_205 rfl ?_
                      have hz : saysK Z q k = ((humT Z.1 i (Z.1 12 i)), Z) := by
                        clear hQ
                        clear cv hM hS ok
                        have h01 := (okS.th hi).2.2.2
                        have hcl := nI_clamp (show i < 2 ^ 31 by omega)
                        have hin := i_ok hi (show nT Z.1 < 2 ^ 31 by omega)
                        have hone := one_all (q := q) (okS.th hi).1
                        have hsf := sfar_c (c := Z.1 12 i)
                        rw [← hp] at hin hcl
                        grind [saysK, cif, saysI, inZ, humT, lossT, may_1]
                      exact hQ _ _ ⟨by rw [hz], by rw [hz]; exact cv⟩
                    by_cases c16 : q = 5
                    · refine j_tableIn (tgt := 206) dX11_says_136 (by rw [c16]; decide) (by rw [c16]; decide) (off := 70) (by rw [c16]; decide) rfl ?_
                      refine j_aload_n 3 dX11_says_206 rfl ?_
                      refine j_iload_n 2 dX11_says_207 rfl ?_
                      refine j_callV (kc := 0) (ks := 0) (a := 0) (b := 0) (d' := d) (As := [.int (nI i)]) dX11_says_208 kX11_141 rfl (shM hM sgM_0) (by omega) rfl rfl rfl (Nat.le_of_ble_eq_true rfl) (Nat.le_of_ble_eq_true rfl) (T_X11_loss hM hS okS i (by omega)) (kk_p ?_)
                      refine j_iret dX11_says_211 rfl ?_
                      have hz : saysK Z q k = ((lossT Z.1 i), Z) := by
                        clear hQ
                        clear cv hM hS ok
                        have h01 := (okS.th hi).2.2.2
                        have hcl := nI_clamp (show i < 2 ^ 31 by omega)
                        have hin := i_ok hi (show nT Z.1 < 2 ^ 31 by omega)
                        have hone := one_all (q := q) (okS.th hi).1
                        have hsf := sfar_c (c := Z.1 12 i)
                        rw [← hp] at hin hcl
                        grind [saysK, cif, saysI, inZ, humT, lossT, may_1]
                      exact hQ _ _ ⟨by rw [hz], by rw [hz]; exact cv⟩
                    by_cases c17 : q = 6
                    · refine j_tableIn (tgt := 194) dX11_says_136 (by rw [c17]; decide) (by rw [c17]; decide) (off := 58) (by rw [c17]; decide) rfl ?_
                      refine j_aload_n 3 dX11_says_194 rfl ?_
                      refine j_iload_n 2 dX11_says_195 rfl ?_
                      refine j_aload_n 3 dX11_says_196 rfl ?_
                      refine j_getr (q := 4) dX11_says_197 fX11_35 (shM hM sgM_0) rfl (rfM hM rfM_0_12) ?_
                      refine j_iload_n 2 dX11_says_200 rfl ?_
                      refine j_ialdN i dX11_says_201 (shM hM sgM_4) (by omega) (by omega) ?_
                      refine j_topi (Z.1 12 i) (mr_arT hS (k := 2) (by omega) (by decide)) ?_
                      refine j_callV (kc := 0) (ks := 0) (a := 0) (b := 0) (d' := (d + 2)) (As := [.int (nI i), .int (Z.1 12 i)]) dX11_says_202 kX11_137 rfl (shM hM sgM_0) (by omega) rfl rfl rfl (Nat.le_of_ble_eq_true rfl) (Nat.le_of_ble_eq_true rfl) (T_X11_hums hM hS okS i (by omega) (Z.1 12 i) (isC_P okS (okS.th hi).2.2.1)) (kk_p ?_)
                      refine j_iret dX11_says_205 rfl ?_
                      have hz : saysK Z q k = ((humT Z.1 i (Z.1 12 i)), Z) := by
                        clear hQ
                        clear cv hM hS ok
                        have h01 := (okS.th hi).2.2.2
                        have hcl := nI_clamp (show i < 2 ^ 31 by omega)
                        have hin := i_ok hi (show nT Z.1 < 2 ^ 31 by omega)
                        have hone := one_all (q := q) (okS.th hi).1
                        have hsf := sfar_c (c := Z.1 12 i)
                        rw [← hp] at hin hcl
                        grind [saysK, cif, saysI, inZ, humT, lossT, may_1]
                      exact hQ _ _ ⟨by rw [hz], by rw [hz]; exact cv⟩
                    refine j_tableOut (tgt := 206) dX11_says_136 (by have q0 := lv_neT c11 (a := 0) (by decide); have q1 := lv_neT c12 (a := 1) (by decide); have q2 := lv_neT c13 (a := 2) (by decide); have q3 := lv_neT c14 (a := 3) (by decide); have q4 := lv_neT c15 (a := 4) (by decide); have q5 := lv_neT c16 (a := 5) (by decide); have q6 := lv_neT c17 (a := 6) (by decide); omega) rfl ?_
                    refine j_aload_n 3 dX11_says_206 rfl ?_
                    refine j_iload_n 2 dX11_says_207 rfl ?_
                    refine j_callV (kc := 0) (ks := 0) (a := 0) (b := 0) (d' := d) (As := [.int (nI i)]) dX11_says_208 kX11_141 rfl (shM hM sgM_0) (by omega) rfl rfl rfl (Nat.le_of_ble_eq_true rfl) (Nat.le_of_ble_eq_true rfl) (T_X11_loss hM hS okS i (by omega)) (kk_p ?_)
                    refine j_iret dX11_says_211 rfl ?_
                    have hz : saysK Z q k = ((lossT Z.1 i), Z) := by
                      clear hQ
                      clear cv hM hS ok
                      have h01 := (okS.th hi).2.2.2
                      have hcl := nI_clamp (show i < 2 ^ 31 by omega)
                      have hin := i_ok hi (show nT Z.1 < 2 ^ 31 by omega)
                      have hone := one_all (q := q) (okS.th hi).1
                      have hsf := sfar_c (c := Z.1 12 i)
                      rw [← hp] at hin hcl
                      grind [saysK, cif, saysI, inZ, humT, lossT, may_1]
                    exact hQ _ _ ⟨by rw [hz], by rw [hz]; exact cv⟩
                  · refine j_iload_n 5 dX11_says_117 rfl ?_
                    refine j_iload 1 dX11_says_118 rfl ?_
                    refine j_icmp_eq (tgt := 135) dX11_says_120 rfl (fun c18 => ?_) (fun c18 => ?_)
                    · refine j_iload_n 5 dX11_says_135 rfl ?_
                      by_cases c20 : q = 0
                      · refine j_tableIn (tgt := 180) dX11_says_136 (by rw [c20]; decide) (by rw [c20]; decide) (off := 44) (by rw [c20]; decide) rfl ?_
                        refine j_aload_n 3 dX11_says_180 rfl ?_
                        refine j_getr (q := 4) dX11_says_181 fX11_35 (shM hM sgM_0) rfl (rfM hM rfM_0_12) ?_
                        refine j_iload_n 2 dX11_says_184 rfl ?_
                        refine j_ialdN i dX11_says_185 (shM hM sgM_4) (by omega) (by omega) ?_
                        refine j_topi (Z.1 12 i) (mr_arT hS (k := 2) (by omega) (by decide)) ?_
                        refine j_iret dX11_says_186 rfl ?_
                        have hz : saysK Z q k = ((Z.1 12 i), Z) := by
                          clear hQ
                          clear cv hM hS ok
                          have h01 := (okS.th hi).2.2.2
                          have hcl := nI_clamp (show i < 2 ^ 31 by omega)
                          have hin := i_ok hi (show nT Z.1 < 2 ^ 31 by omega)
                          have hone := one_all (q := q) (okS.th hi).1
                          have hsf := sfar_c (c := Z.1 12 i)
                          rw [← hp] at hin hcl
                          grind [saysK, cif, saysI, inZ, humT, lossT, may_1]
                        exact hQ _ _ ⟨by rw [hz], by rw [hz]; exact cv⟩
                      by_cases c21 : q = 1
                      · refine j_tableIn (tgt := 206) dX11_says_136 (by rw [c21]; decide) (by rw [c21]; decide) (off := 70) (by rw [c21]; decide) rfl ?_
                        refine j_aload_n 3 dX11_says_206 rfl ?_
                        refine j_iload_n 2 dX11_says_207 rfl ?_
                        refine j_callV (kc := 0) (ks := 0) (a := 0) (b := 0) (d' := d) (As := [.int (nI i)]) dX11_says_208 kX11_141 rfl (shM hM sgM_0) (by omega) rfl rfl rfl (Nat.le_of_ble_eq_true rfl) (Nat.le_of_ble_eq_true rfl) (T_X11_loss hM hS okS i (by omega)) (kk_p ?_)
                        refine j_iret dX11_says_211 rfl ?_
                        have hz : saysK Z q k = ((lossT Z.1 i), Z) := by
                          clear hQ
                          clear cv hM hS ok
                          have h01 := (okS.th hi).2.2.2
                          have hcl := nI_clamp (show i < 2 ^ 31 by omega)
                          have hin := i_ok hi (show nT Z.1 < 2 ^ 31 by omega)
                          have hone := one_all (q := q) (okS.th hi).1
                          have hsf := sfar_c (c := Z.1 12 i)
                          rw [← hp] at hin hcl
                          grind [saysK, cif, saysI, inZ, humT, lossT, may_1]
                        exact hQ _ _ ⟨by rw [hz], by rw [hz]; exact cv⟩
                      by_cases c22 : q = 2
                      · refine j_tableIn (tgt := 187) dX11_says_136 (by rw [c22]; decide) (by rw [c22]; decide) (off := 51) (by rw [c22]; decide) rfl ?_
                        refine j_aload_n 3 dX11_says_187 rfl ?_
                        refine j_getr (q := 5) dX11_says_188 fX11_38 (shM hM sgM_0) rfl (rfM hM rfM_0_13) ?_
                        refine j_iload_n 2 dX11_says_191 rfl ?_
                        refine j_ialdN i dX11_says_192 (shM hM sgM_5) (by omega) (by omega) ?_
                        refine j_topi (Z.1 13 i) (mr_arT hS (k := 3) (by omega) (by decide)) ?_
                        refine j_iret dX11_says_193 rfl ?_
                        have hz : saysK Z q k = ((Z.1 13 i), Z) := by
                          clear hQ
                          clear cv hM hS ok
                          have h01 := (okS.th hi).2.2.2
                          have hcl := nI_clamp (show i < 2 ^ 31 by omega)
                          have hin := i_ok hi (show nT Z.1 < 2 ^ 31 by omega)
                          have hone := one_all (q := q) (okS.th hi).1
                          have hsf := sfar_c (c := Z.1 12 i)
                          rw [← hp] at hin hcl
                          grind [saysK, cif, saysI, inZ, humT, lossT, may_1]
                        exact hQ _ _ ⟨by rw [hz], by rw [hz]; exact cv⟩
                      by_cases c23 : q = 3
                      · refine j_tableIn (tgt := 206) dX11_says_136 (by rw [c23]; decide) (by rw [c23]; decide) (off := 70) (by rw [c23]; decide) rfl ?_
                        refine j_aload_n 3 dX11_says_206 rfl ?_
                        refine j_iload_n 2 dX11_says_207 rfl ?_
                        refine j_callV (kc := 0) (ks := 0) (a := 0) (b := 0) (d' := d) (As := [.int (nI i)]) dX11_says_208 kX11_141 rfl (shM hM sgM_0) (by omega) rfl rfl rfl (Nat.le_of_ble_eq_true rfl) (Nat.le_of_ble_eq_true rfl) (T_X11_loss hM hS okS i (by omega)) (kk_p ?_)
                        refine j_iret dX11_says_211 rfl ?_
                        have hz : saysK Z q k = ((lossT Z.1 i), Z) := by
                          clear hQ
                          clear cv hM hS ok
                          have h01 := (okS.th hi).2.2.2
                          have hcl := nI_clamp (show i < 2 ^ 31 by omega)
                          have hin := i_ok hi (show nT Z.1 < 2 ^ 31 by omega)
                          have hone := one_all (q := q) (okS.th hi).1
                          have hsf := sfar_c (c := Z.1 12 i)
                          rw [← hp] at hin hcl
                          grind [saysK, cif, saysI, inZ, humT, lossT, may_1]
                        exact hQ _ _ ⟨by rw [hz], by rw [hz]; exact cv⟩
                      by_cases c24 : q = 4
                      · refine j_tableIn (tgt := 194) dX11_says_136 (by rw [c24]; decide) (by rw [c24]; decide) (off := 58) (by rw [c24]; decide) rfl ?_
                        refine j_aload_n 3 dX11_says_194 rfl ?_
                        refine j_iload_n 2 dX11_says_195 rfl ?_
                        refine j_aload_n 3 dX11_says_196 rfl ?_
                        refine j_getr (q := 4) dX11_says_197 fX11_35 (shM hM sgM_0) rfl (rfM hM rfM_0_12) ?_
                        refine j_iload_n 2 dX11_says_200 rfl ?_
                        refine j_ialdN i dX11_says_201 (shM hM sgM_4) (by omega) (by omega) ?_
                        refine j_topi (Z.1 12 i) (mr_arT hS (k := 2) (by omega) (by decide)) ?_
                        refine j_callV (kc := 0) (ks := 0) (a := 0) (b := 0) (d' := (d + 2)) (As := [.int (nI i), .int (Z.1 12 i)]) dX11_says_202 kX11_137 rfl (shM hM sgM_0) (by omega) rfl rfl rfl (Nat.le_of_ble_eq_true rfl) (Nat.le_of_ble_eq_true rfl) (T_X11_hums hM hS okS i (by omega) (Z.1 12 i) (isC_P okS (okS.th hi).2.2.1)) (kk_p ?_)
                        refine j_iret dX11_says_205 rfl ?_
                        have hz : saysK Z q k = ((humT Z.1 i (Z.1 12 i)), Z) := by
                          clear hQ
                          clear cv hM hS ok
                          have h01 := (okS.th hi).2.2.2
                          have hcl := nI_clamp (show i < 2 ^ 31 by omega)
                          have hin := i_ok hi (show nT Z.1 < 2 ^ 31 by omega)
                          have hone := one_all (q := q) (okS.th hi).1
                          have hsf := sfar_c (c := Z.1 12 i)
                          rw [← hp] at hin hcl
                          grind [saysK, cif, saysI, inZ, humT, lossT, may_1]
                        exact hQ _ _ ⟨by rw [hz], by rw [hz]; exact cv⟩
                      by_cases c25 : q = 5
                      · refine j_tableIn (tgt := 206) dX11_says_136 (by rw [c25]; decide) (by rw [c25]; decide) (off := 70) (by rw [c25]; decide) rfl ?_
                        refine j_aload_n 3 dX11_says_206 rfl ?_
                        refine j_iload_n 2 dX11_says_207 rfl ?_
                        refine j_callV (kc := 0) (ks := 0) (a := 0) (b := 0) (d' := d) (As := [.int (nI i)]) dX11_says_208 kX11_141 rfl (shM hM sgM_0) (by omega) rfl rfl rfl (Nat.le_of_ble_eq_true rfl) (Nat.le_of_ble_eq_true rfl) (T_X11_loss hM hS okS i (by omega)) (kk_p ?_)
                        refine j_iret dX11_says_211 rfl ?_
                        have hz : saysK Z q k = ((lossT Z.1 i), Z) := by
                          clear hQ
                          clear cv hM hS ok
                          have h01 := (okS.th hi).2.2.2
                          have hcl := nI_clamp (show i < 2 ^ 31 by omega)
                          have hin := i_ok hi (show nT Z.1 < 2 ^ 31 by omega)
                          have hone := one_all (q := q) (okS.th hi).1
                          have hsf := sfar_c (c := Z.1 12 i)
                          rw [← hp] at hin hcl
                          grind [saysK, cif, saysI, inZ, humT, lossT, may_1]
                        exact hQ _ _ ⟨by rw [hz], by rw [hz]; exact cv⟩
                      by_cases c26 : q = 6
                      · refine j_tableIn (tgt := 194) dX11_says_136 (by rw [c26]; decide) (by rw [c26]; decide) (off := 58) (by rw [c26]; decide) rfl ?_
                        refine j_aload_n 3 dX11_says_194 rfl ?_
                        refine j_iload_n 2 dX11_says_195 rfl ?_
                        refine j_aload_n 3 dX11_says_196 rfl ?_
                        refine j_getr (q := 4) dX11_says_197 fX11_35 (shM hM sgM_0) rfl (rfM hM rfM_0_12) ?_
                        refine j_iload_n 2 dX11_says_200 rfl ?_
                        refine j_ialdN i dX11_says_201 (shM hM sgM_4) (by omega) (by omega) ?_
                        refine j_topi (Z.1 12 i) (mr_arT hS (k := 2) (by omega) (by decide)) ?_
                        refine j_callV (kc := 0) (ks := 0) (a := 0) (b := 0) (d' := (d + 2)) (As := [.int (nI i), .int (Z.1 12 i)]) dX11_says_202 kX11_137 rfl (shM hM sgM_0) (by omega) rfl rfl rfl (Nat.le_of_ble_eq_true rfl) (Nat.le_of_ble_eq_true rfl) (T_X11_hums hM hS okS i (by omega) (Z.1 12 i) (isC_P okS (okS.th hi).2.2.1)) (kk_p ?_)
                        refine j_iret dX11_says_205 rfl ?_
                        have hz : saysK Z q k = ((humT Z.1 i (Z.1 12 i)), Z) := by
                          clear hQ
                          clear cv hM hS ok
                          have h01 := (okS.th hi).2.2.2
                          have hcl := nI_clamp (show i < 2 ^ 31 by omega)
                          have hin := i_ok hi (show nT Z.1 < 2 ^ 31 by omega)
                          have hone := one_all (q := q) (okS.th hi).1
                          have hsf := sfar_c (c := Z.1 12 i)
                          rw [← hp] at hin hcl
                          grind [saysK, cif, saysI, inZ, humT, lossT, may_1]
                        exact hQ _ _ ⟨by rw [hz], by rw [hz]; exact cv⟩
                      refine j_tableOut (tgt := 206) dX11_says_136 (by have q0 := lv_neT c20 (a := 0) (by decide); have q1 := lv_neT c21 (a := 1) (by decide); have q2 := lv_neT c22 (a := 2) (by decide); have q3 := lv_neT c23 (a := 3) (by decide); have q4 := lv_neT c24 (a := 4) (by decide); have q5 := lv_neT c25 (a := 5) (by decide); have q6 := lv_neT c26 (a := 6) (by decide); omega) rfl ?_
                      refine j_aload_n 3 dX11_says_206 rfl ?_
                      refine j_iload_n 2 dX11_says_207 rfl ?_
                      refine j_callV (kc := 0) (ks := 0) (a := 0) (b := 0) (d' := d) (As := [.int (nI i)]) dX11_says_208 kX11_141 rfl (shM hM sgM_0) (by omega) rfl rfl rfl (Nat.le_of_ble_eq_true rfl) (Nat.le_of_ble_eq_true rfl) (T_X11_loss hM hS okS i (by omega)) (kk_p ?_)
                      refine j_iret dX11_says_211 rfl ?_
                      have hz : saysK Z q k = ((lossT Z.1 i), Z) := by
                        clear hQ
                        clear cv hM hS ok
                        have h01 := (okS.th hi).2.2.2
                        have hcl := nI_clamp (show i < 2 ^ 31 by omega)
                        have hin := i_ok hi (show nT Z.1 < 2 ^ 31 by omega)
                        have hone := one_all (q := q) (okS.th hi).1
                        have hsf := sfar_c (c := Z.1 12 i)
                        rw [← hp] at hin hcl
                        grind [saysK, cif, saysI, inZ, humT, lossT, may_1]
                      exact hQ _ _ ⟨by rw [hz], by rw [hz]; exact cv⟩
                    · refine j_iload 0 dX11_says_123 rfl ?_
                      refine j_if_ne (tgt := 135) dX11_says_125 rfl (fun c27 => ?_) (fun c27 => ?_)
                      · exact absurd c27 (by decide)
                      · refine j_aload_n 3 dX11_says_128 rfl ?_
                        refine j_bipush (-2) dX11_says_129 bp_n2 ?_
                        refine j_callV (kc := 0) (ks := 0) (a := 0) (b := 0) (d' := d) (As := [.int (-2)]) dX11_says_131 kX11_130 rfl (shM hM sgM_0) (by omega) rfl rfl rfl (Nat.le_of_ble_eq_true rfl) (Nat.le_of_ble_eq_true rfl) (T_X11_no hM (-2) (by decide)) (kk_p ?_)
                        refine j_iret dX11_says_134 rfl ?_
                        have hz : saysK Z q k = ((-2), (refZ Z (-2))) := by
                          clear hQ
                          clear cv hM hS ok
                          have h01 := (okS.th hi).2.2.2
                          have hcl := nI_clamp (show i < 2 ^ 31 by omega)
                          have hin := i_ok hi (show nT Z.1 < 2 ^ 31 by omega)
                          have hone := one_all (q := q) (okS.th hi).1
                          have hsf := sfar_c (c := Z.1 12 i)
                          rw [← hp] at hin hcl
                          grind [saysK, cif, saysI, inZ, humT, lossT, may_1]
                        exact hQ _ _ ⟨by rw [hz], by rw [hz]; exact MV.rf cv (by decide)⟩
                · refine j_iload 0 dX11_says_99 rfl ?_
                  refine j_bipush 6 dX11_says_101 bp_6 ?_
                  refine j_icmp_ne (tgt := 110) dX11_says_103 rfl (fun c28 => ?_) (fun c28 => ?_)
                  · refine j_iconst 0 dX11_says_110 ic_0 ?_
                    refine j_istore (L' := [(5, .int 0), (4, .int (Z.1 10 i)), (3, .int (nI i)), (0, .ref 0), (1, .int (nI k)), (2, .int q)]) dX11_says_111 (by decide) rfl ?_
                    refine j_iload_n 5 dX11_says_113 rfl ?_
                    refine j_if_eq (tgt := 135) dX11_says_114 rfl (fun c29 => ?_) (fun c29 => ?_)
                    · refine j_iload_n 5 dX11_says_135 rfl ?_
                      by_cases c31 : q = 0
                      · refine j_tableIn (tgt := 180) dX11_says_136 (by rw [c31]; decide) (by rw [c31]; decide) (off := 44) (by rw [c31]; decide) rfl ?_
                        refine j_aload_n 3 dX11_says_180 rfl ?_
                        refine j_getr (q := 4) dX11_says_181 fX11_35 (shM hM sgM_0) rfl (rfM hM rfM_0_12) ?_
                        refine j_iload_n 2 dX11_says_184 rfl ?_
                        refine j_ialdN i dX11_says_185 (shM hM sgM_4) (by omega) (by omega) ?_
                        refine j_topi (Z.1 12 i) (mr_arT hS (k := 2) (by omega) (by decide)) ?_
                        refine j_iret dX11_says_186 rfl ?_
                        have hz : saysK Z q k = ((Z.1 12 i), Z) := by
                          clear hQ
                          clear cv hM hS ok
                          have h01 := (okS.th hi).2.2.2
                          have hcl := nI_clamp (show i < 2 ^ 31 by omega)
                          have hin := i_ok hi (show nT Z.1 < 2 ^ 31 by omega)
                          have hone := one_all (q := q) (okS.th hi).1
                          have hsf := sfar_c (c := Z.1 12 i)
                          rw [← hp] at hin hcl
                          grind [saysK, cif, saysI, inZ, humT, lossT, may_1]
                        exact hQ _ _ ⟨by rw [hz], by rw [hz]; exact cv⟩
                      by_cases c32 : q = 1
                      · refine j_tableIn (tgt := 206) dX11_says_136 (by rw [c32]; decide) (by rw [c32]; decide) (off := 70) (by rw [c32]; decide) rfl ?_
                        refine j_aload_n 3 dX11_says_206 rfl ?_
                        refine j_iload_n 2 dX11_says_207 rfl ?_
                        refine j_callV (kc := 0) (ks := 0) (a := 0) (b := 0) (d' := d) (As := [.int (nI i)]) dX11_says_208 kX11_141 rfl (shM hM sgM_0) (by omega) rfl rfl rfl (Nat.le_of_ble_eq_true rfl) (Nat.le_of_ble_eq_true rfl) (T_X11_loss hM hS okS i (by omega)) (kk_p ?_)
                        refine j_iret dX11_says_211 rfl ?_
                        have hz : saysK Z q k = ((lossT Z.1 i), Z) := by
                          clear hQ
                          clear cv hM hS ok
                          have h01 := (okS.th hi).2.2.2
                          have hcl := nI_clamp (show i < 2 ^ 31 by omega)
                          have hin := i_ok hi (show nT Z.1 < 2 ^ 31 by omega)
                          have hone := one_all (q := q) (okS.th hi).1
                          have hsf := sfar_c (c := Z.1 12 i)
                          rw [← hp] at hin hcl
                          grind [saysK, cif, saysI, inZ, humT, lossT, may_1]
                        exact hQ _ _ ⟨by rw [hz], by rw [hz]; exact cv⟩
                      by_cases c33 : q = 2
                      · refine j_tableIn (tgt := 187) dX11_says_136 (by rw [c33]; decide) (by rw [c33]; decide) (off := 51) (by rw [c33]; decide) rfl ?_
                        refine j_aload_n 3 dX11_says_187 rfl ?_
                        refine j_getr (q := 5) dX11_says_188 fX11_38 (shM hM sgM_0) rfl (rfM hM rfM_0_13) ?_
                        refine j_iload_n 2 dX11_says_191 rfl ?_
                        refine j_ialdN i dX11_says_192 (shM hM sgM_5) (by omega) (by omega) ?_
                        refine j_topi (Z.1 13 i) (mr_arT hS (k := 3) (by omega) (by decide)) ?_
                        refine j_iret dX11_says_193 rfl ?_
                        have hz : saysK Z q k = ((Z.1 13 i), Z) := by
                          clear hQ
                          clear cv hM hS ok
                          have h01 := (okS.th hi).2.2.2
                          have hcl := nI_clamp (show i < 2 ^ 31 by omega)
                          have hin := i_ok hi (show nT Z.1 < 2 ^ 31 by omega)
                          have hone := one_all (q := q) (okS.th hi).1
                          have hsf := sfar_c (c := Z.1 12 i)
                          rw [← hp] at hin hcl
                          grind [saysK, cif, saysI, inZ, humT, lossT, may_1]
                        exact hQ _ _ ⟨by rw [hz], by rw [hz]; exact cv⟩
                      by_cases c34 : q = 3
                      · refine j_tableIn (tgt := 206) dX11_says_136 (by rw [c34]; decide) (by rw [c34]; decide) (off := 70) (by rw [c34]; decide) rfl ?_
                        refine j_aload_n 3 dX11_says_206 rfl ?_
                        refine j_iload_n 2 dX11_says_207 rfl ?_
                        refine j_callV (kc := 0) (ks := 0) (a := 0) (b := 0) (d' := d) (As := [.int (nI i)]) dX11_says_208 kX11_141 rfl (shM hM sgM_0) (by omega) rfl rfl rfl (Nat.le_of_ble_eq_true rfl) (Nat.le_of_ble_eq_true rfl) (T_X11_loss hM hS okS i (by omega)) (kk_p ?_)
                        refine j_iret dX11_says_211 rfl ?_
                        have hz : saysK Z q k = ((lossT Z.1 i), Z) := by
                          clear hQ
                          clear cv hM hS ok
                          have h01 := (okS.th hi).2.2.2
                          have hcl := nI_clamp (show i < 2 ^ 31 by omega)
                          have hin := i_ok hi (show nT Z.1 < 2 ^ 31 by omega)
                          have hone := one_all (q := q) (okS.th hi).1
                          have hsf := sfar_c (c := Z.1 12 i)
                          rw [← hp] at hin hcl
                          grind [saysK, cif, saysI, inZ, humT, lossT, may_1]
                        exact hQ _ _ ⟨by rw [hz], by rw [hz]; exact cv⟩
                      by_cases c35 : q = 4
                      · refine j_tableIn (tgt := 194) dX11_says_136 (by rw [c35]; decide) (by rw [c35]; decide) (off := 58) (by rw [c35]; decide) rfl ?_
                        refine j_aload_n 3 dX11_says_194 rfl ?_
                        refine j_iload_n 2 dX11_says_195 rfl ?_
                        refine j_aload_n 3 dX11_says_196 rfl ?_
                        refine j_getr (q := 4) dX11_says_197 fX11_35 (shM hM sgM_0) rfl (rfM hM rfM_0_12) ?_
                        refine j_iload_n 2 dX11_says_200 rfl ?_
                        refine j_ialdN i dX11_says_201 (shM hM sgM_4) (by omega) (by omega) ?_
                        refine j_topi (Z.1 12 i) (mr_arT hS (k := 2) (by omega) (by decide)) ?_
                        refine j_callV (kc := 0) (ks := 0) (a := 0) (b := 0) (d' := (d + 2)) (As := [.int (nI i), .int (Z.1 12 i)]) dX11_says_202 kX11_137 rfl (shM hM sgM_0) (by omega) rfl rfl rfl (Nat.le_of_ble_eq_true rfl) (Nat.le_of_ble_eq_true rfl) (T_X11_hums hM hS okS i (by omega) (Z.1 12 i) (isC_P okS (okS.th hi).2.2.1)) (kk_p ?_)
                        refine j_iret dX11_says_205 rfl ?_
                        have hz : saysK Z q k = ((humT Z.1 i (Z.1 12 i)), Z) := by
                          clear hQ
                          clear cv hM hS ok
                          have h01 := (okS.th hi).2.2.2
                          have hcl := nI_clamp (show i < 2 ^ 31 by omega)
                          have hin := i_ok hi (show nT Z.1 < 2 ^ 31 by omega)
                          have hone := one_all (q := q) (okS.th hi).1
                          have hsf := sfar_c (c := Z.1 12 i)
                          rw [← hp] at hin hcl
                          grind [saysK, cif, saysI, inZ, humT, lossT, may_1]
                        exact hQ _ _ ⟨by rw [hz], by rw [hz]; exact cv⟩
                      by_cases c36 : q = 5
                      · refine j_tableIn (tgt := 206) dX11_says_136 (by rw [c36]; decide) (by rw [c36]; decide) (off := 70) (by rw [c36]; decide) rfl ?_
                        refine j_aload_n 3 dX11_says_206 rfl ?_
                        refine j_iload_n 2 dX11_says_207 rfl ?_
                        refine j_callV (kc := 0) (ks := 0) (a := 0) (b := 0) (d' := d) (As := [.int (nI i)]) dX11_says_208 kX11_141 rfl (shM hM sgM_0) (by omega) rfl rfl rfl (Nat.le_of_ble_eq_true rfl) (Nat.le_of_ble_eq_true rfl) (T_X11_loss hM hS okS i (by omega)) (kk_p ?_)
                        refine j_iret dX11_says_211 rfl ?_
                        have hz : saysK Z q k = ((lossT Z.1 i), Z) := by
                          clear hQ
                          clear cv hM hS ok
                          have h01 := (okS.th hi).2.2.2
                          have hcl := nI_clamp (show i < 2 ^ 31 by omega)
                          have hin := i_ok hi (show nT Z.1 < 2 ^ 31 by omega)
                          have hone := one_all (q := q) (okS.th hi).1
                          have hsf := sfar_c (c := Z.1 12 i)
                          rw [← hp] at hin hcl
                          grind [saysK, cif, saysI, inZ, humT, lossT, may_1]
                        exact hQ _ _ ⟨by rw [hz], by rw [hz]; exact cv⟩
                      by_cases c37 : q = 6
                      · refine j_tableIn (tgt := 194) dX11_says_136 (by rw [c37]; decide) (by rw [c37]; decide) (off := 58) (by rw [c37]; decide) rfl ?_
                        refine j_aload_n 3 dX11_says_194 rfl ?_
                        refine j_iload_n 2 dX11_says_195 rfl ?_
                        refine j_aload_n 3 dX11_says_196 rfl ?_
                        refine j_getr (q := 4) dX11_says_197 fX11_35 (shM hM sgM_0) rfl (rfM hM rfM_0_12) ?_
                        refine j_iload_n 2 dX11_says_200 rfl ?_
                        refine j_ialdN i dX11_says_201 (shM hM sgM_4) (by omega) (by omega) ?_
                        refine j_topi (Z.1 12 i) (mr_arT hS (k := 2) (by omega) (by decide)) ?_
                        refine j_callV (kc := 0) (ks := 0) (a := 0) (b := 0) (d' := (d + 2)) (As := [.int (nI i), .int (Z.1 12 i)]) dX11_says_202 kX11_137 rfl (shM hM sgM_0) (by omega) rfl rfl rfl (Nat.le_of_ble_eq_true rfl) (Nat.le_of_ble_eq_true rfl) (T_X11_hums hM hS okS i (by omega) (Z.1 12 i) (isC_P okS (okS.th hi).2.2.1)) (kk_p ?_)
                        refine j_iret dX11_says_205 rfl ?_
                        have hz : saysK Z q k = ((humT Z.1 i (Z.1 12 i)), Z) := by
                          clear hQ
                          clear cv hM hS ok
                          have h01 := (okS.th hi).2.2.2
                          have hcl := nI_clamp (show i < 2 ^ 31 by omega)
                          have hin := i_ok hi (show nT Z.1 < 2 ^ 31 by omega)
                          have hone := one_all (q := q) (okS.th hi).1
                          have hsf := sfar_c (c := Z.1 12 i)
                          rw [← hp] at hin hcl
                          grind [saysK, cif, saysI, inZ, humT, lossT, may_1]
                        exact hQ _ _ ⟨by rw [hz], by rw [hz]; exact cv⟩
                      refine j_tableOut (tgt := 206) dX11_says_136 (by have q0 := lv_neT c31 (a := 0) (by decide); have q1 := lv_neT c32 (a := 1) (by decide); have q2 := lv_neT c33 (a := 2) (by decide); have q3 := lv_neT c34 (a := 3) (by decide); have q4 := lv_neT c35 (a := 4) (by decide); have q5 := lv_neT c36 (a := 5) (by decide); have q6 := lv_neT c37 (a := 6) (by decide); omega) rfl ?_
                      refine j_aload_n 3 dX11_says_206 rfl ?_
                      refine j_iload_n 2 dX11_says_207 rfl ?_
                      refine j_callV (kc := 0) (ks := 0) (a := 0) (b := 0) (d' := d) (As := [.int (nI i)]) dX11_says_208 kX11_141 rfl (shM hM sgM_0) (by omega) rfl rfl rfl (Nat.le_of_ble_eq_true rfl) (Nat.le_of_ble_eq_true rfl) (T_X11_loss hM hS okS i (by omega)) (kk_p ?_)
                      refine j_iret dX11_says_211 rfl ?_
                      have hz : saysK Z q k = ((lossT Z.1 i), Z) := by
                        clear hQ
                        clear cv hM hS ok
                        have h01 := (okS.th hi).2.2.2
                        have hcl := nI_clamp (show i < 2 ^ 31 by omega)
                        have hin := i_ok hi (show nT Z.1 < 2 ^ 31 by omega)
                        have hone := one_all (q := q) (okS.th hi).1
                        have hsf := sfar_c (c := Z.1 12 i)
                        rw [← hp] at hin hcl
                        grind [saysK, cif, saysI, inZ, humT, lossT, may_1]
                      exact hQ _ _ ⟨by rw [hz], by rw [hz]; exact cv⟩
                    · refine j_iload_n 5 dX11_says_117 rfl ?_
                      refine j_iload 1 dX11_says_118 rfl ?_
                      refine j_icmp_eq (tgt := 135) dX11_says_120 rfl (fun c38 => ?_) (fun c38 => ?_)
                      · refine j_iload_n 5 dX11_says_135 rfl ?_
                        by_cases c40 : q = 0
                        · refine j_tableIn (tgt := 180) dX11_says_136 (by rw [c40]; decide) (by rw [c40]; decide) (off := 44) (by rw [c40]; decide) rfl ?_
                          refine j_aload_n 3 dX11_says_180 rfl ?_
                          refine j_getr (q := 4) dX11_says_181 fX11_35 (shM hM sgM_0) rfl (rfM hM rfM_0_12) ?_
                          refine j_iload_n 2 dX11_says_184 rfl ?_
                          refine j_ialdN i dX11_says_185 (shM hM sgM_4) (by omega) (by omega) ?_
                          refine j_topi (Z.1 12 i) (mr_arT hS (k := 2) (by omega) (by decide)) ?_
                          refine j_iret dX11_says_186 rfl ?_
                          have hz : saysK Z q k = ((Z.1 12 i), Z) := by
                            clear hQ
                            clear cv hM hS ok
                            have h01 := (okS.th hi).2.2.2
                            have hcl := nI_clamp (show i < 2 ^ 31 by omega)
                            have hin := i_ok hi (show nT Z.1 < 2 ^ 31 by omega)
                            have hone := one_all (q := q) (okS.th hi).1
                            have hsf := sfar_c (c := Z.1 12 i)
                            rw [← hp] at hin hcl
                            grind [saysK, cif, saysI, inZ, humT, lossT, may_1]
                          exact hQ _ _ ⟨by rw [hz], by rw [hz]; exact cv⟩
                        by_cases c41 : q = 1
                        · refine j_tableIn (tgt := 206) dX11_says_136 (by rw [c41]; decide) (by rw [c41]; decide) (off := 70) (by rw [c41]; decide) rfl ?_
                          refine j_aload_n 3 dX11_says_206 rfl ?_
                          refine j_iload_n 2 dX11_says_207 rfl ?_
                          refine j_callV (kc := 0) (ks := 0) (a := 0) (b := 0) (d' := d) (As := [.int (nI i)]) dX11_says_208 kX11_141 rfl (shM hM sgM_0) (by omega) rfl rfl rfl (Nat.le_of_ble_eq_true rfl) (Nat.le_of_ble_eq_true rfl) (T_X11_loss hM hS okS i (by omega)) (kk_p ?_)
                          refine j_iret dX11_says_211 rfl ?_
                          have hz : saysK Z q k = ((lossT Z.1 i), Z) := by
                            clear hQ
                            clear cv hM hS ok
                            have h01 := (okS.th hi).2.2.2
                            have hcl := nI_clamp (show i < 2 ^ 31 by omega)
                            have hin := i_ok hi (show nT Z.1 < 2 ^ 31 by omega)
                            have hone := one_all (q := q) (okS.th hi).1
                            have hsf := sfar_c (c := Z.1 12 i)
                            rw [← hp] at hin hcl
                            grind [saysK, cif, saysI, inZ, humT, lossT, may_1]
                          exact hQ _ _ ⟨by rw [hz], by rw [hz]; exact cv⟩
                        by_cases c42 : q = 2
                        · refine j_tableIn (tgt := 187) dX11_says_136 (by rw [c42]; decide) (by rw [c42]; decide) (off := 51) (by rw [c42]; decide) rfl ?_
                          refine j_aload_n 3 dX11_says_187 rfl ?_
                          refine j_getr (q := 5) dX11_says_188 fX11_38 (shM hM sgM_0) rfl (rfM hM rfM_0_13) ?_
                          refine j_iload_n 2 dX11_says_191 rfl ?_
                          refine j_ialdN i dX11_says_192 (shM hM sgM_5) (by omega) (by omega) ?_
                          refine j_topi (Z.1 13 i) (mr_arT hS (k := 3) (by omega) (by decide)) ?_
                          refine j_iret dX11_says_193 rfl ?_
                          have hz : saysK Z q k = ((Z.1 13 i), Z) := by
                            clear hQ
                            clear cv hM hS ok
                            have h01 := (okS.th hi).2.2.2
                            have hcl := nI_clamp (show i < 2 ^ 31 by omega)
                            have hin := i_ok hi (show nT Z.1 < 2 ^ 31 by omega)
                            have hone := one_all (q := q) (okS.th hi).1
                            have hsf := sfar_c (c := Z.1 12 i)
                            rw [← hp] at hin hcl
                            grind [saysK, cif, saysI, inZ, humT, lossT, may_1]
                          exact hQ _ _ ⟨by rw [hz], by rw [hz]; exact cv⟩
                        by_cases c43 : q = 3
                        · refine j_tableIn (tgt := 206) dX11_says_136 (by rw [c43]; decide) (by rw [c43]; decide) (off := 70) (by rw [c43]; decide) rfl ?_
                          refine j_aload_n 3 dX11_says_206 rfl ?_
                          refine j_iload_n 2 dX11_says_207 rfl ?_
                          refine j_callV (kc := 0) (ks := 0) (a := 0) (b := 0) (d' := d) (As := [.int (nI i)]) dX11_says_208 kX11_141 rfl (shM hM sgM_0) (by omega) rfl rfl rfl (Nat.le_of_ble_eq_true rfl) (Nat.le_of_ble_eq_true rfl) (T_X11_loss hM hS okS i (by omega)) (kk_p ?_)
                          refine j_iret dX11_says_211 rfl ?_
                          have hz : saysK Z q k = ((lossT Z.1 i), Z) := by
                            clear hQ
                            clear cv hM hS ok
                            have h01 := (okS.th hi).2.2.2
                            have hcl := nI_clamp (show i < 2 ^ 31 by omega)
                            have hin := i_ok hi (show nT Z.1 < 2 ^ 31 by omega)
                            have hone := one_all (q := q) (okS.th hi).1
                            have hsf := sfar_c (c := Z.1 12 i)
                            rw [← hp] at hin hcl
                            grind [saysK, cif, saysI, inZ, humT, lossT, may_1]
                          exact hQ _ _ ⟨by rw [hz], by rw [hz]; exact cv⟩
                        by_cases c44 : q = 4
                        · refine j_tableIn (tgt := 194) dX11_says_136 (by rw [c44]; decide) (by rw [c44]; decide) (off := 58) (by rw [c44]; decide) rfl ?_
                          refine j_aload_n 3 dX11_says_194 rfl ?_
                          refine j_iload_n 2 dX11_says_195 rfl ?_
                          refine j_aload_n 3 dX11_says_196 rfl ?_
                          refine j_getr (q := 4) dX11_says_197 fX11_35 (shM hM sgM_0) rfl (rfM hM rfM_0_12) ?_
                          refine j_iload_n 2 dX11_says_200 rfl ?_
                          refine j_ialdN i dX11_says_201 (shM hM sgM_4) (by omega) (by omega) ?_
                          refine j_topi (Z.1 12 i) (mr_arT hS (k := 2) (by omega) (by decide)) ?_
                          refine j_callV (kc := 0) (ks := 0) (a := 0) (b := 0) (d' := (d + 2)) (As := [.int (nI i), .int (Z.1 12 i)]) dX11_says_202 kX11_137 rfl (shM hM sgM_0) (by omega) rfl rfl rfl (Nat.le_of_ble_eq_true rfl) (Nat.le_of_ble_eq_true rfl) (T_X11_hums hM hS okS i (by omega) (Z.1 12 i) (isC_P okS (okS.th hi).2.2.1)) (kk_p ?_)
                          refine j_iret dX11_says_205 rfl ?_
                          have hz : saysK Z q k = ((humT Z.1 i (Z.1 12 i)), Z) := by
                            clear hQ
                            clear cv hM hS ok
                            have h01 := (okS.th hi).2.2.2
                            have hcl := nI_clamp (show i < 2 ^ 31 by omega)
                            have hin := i_ok hi (show nT Z.1 < 2 ^ 31 by omega)
                            have hone := one_all (q := q) (okS.th hi).1
                            have hsf := sfar_c (c := Z.1 12 i)
                            rw [← hp] at hin hcl
                            grind [saysK, cif, saysI, inZ, humT, lossT, may_1]
                          exact hQ _ _ ⟨by rw [hz], by rw [hz]; exact cv⟩
                        by_cases c45 : q = 5
                        · refine j_tableIn (tgt := 206) dX11_says_136 (by rw [c45]; decide) (by rw [c45]; decide) (off := 70) (by rw [c45]; decide) rfl ?_
                          refine j_aload_n 3 dX11_says_206 rfl ?_
                          refine j_iload_n 2 dX11_says_207 rfl ?_
                          refine j_callV (kc := 0) (ks := 0) (a := 0) (b := 0) (d' := d) (As := [.int (nI i)]) dX11_says_208 kX11_141 rfl (shM hM sgM_0) (by omega) rfl rfl rfl (Nat.le_of_ble_eq_true rfl) (Nat.le_of_ble_eq_true rfl) (T_X11_loss hM hS okS i (by omega)) (kk_p ?_)
                          refine j_iret dX11_says_211 rfl ?_
                          have hz : saysK Z q k = ((lossT Z.1 i), Z) := by
                            clear hQ
                            clear cv hM hS ok
                            have h01 := (okS.th hi).2.2.2
                            have hcl := nI_clamp (show i < 2 ^ 31 by omega)
                            have hin := i_ok hi (show nT Z.1 < 2 ^ 31 by omega)
                            have hone := one_all (q := q) (okS.th hi).1
                            have hsf := sfar_c (c := Z.1 12 i)
                            rw [← hp] at hin hcl
                            grind [saysK, cif, saysI, inZ, humT, lossT, may_1]
                          exact hQ _ _ ⟨by rw [hz], by rw [hz]; exact cv⟩
                        by_cases c46 : q = 6
                        · refine j_tableIn (tgt := 194) dX11_says_136 (by rw [c46]; decide) (by rw [c46]; decide) (off := 58) (by rw [c46]; decide) rfl ?_
                          refine j_aload_n 3 dX11_says_194 rfl ?_
                          refine j_iload_n 2 dX11_says_195 rfl ?_
                          refine j_aload_n 3 dX11_says_196 rfl ?_
                          refine j_getr (q := 4) dX11_says_197 fX11_35 (shM hM sgM_0) rfl (rfM hM rfM_0_12) ?_
                          refine j_iload_n 2 dX11_says_200 rfl ?_
                          refine j_ialdN i dX11_says_201 (shM hM sgM_4) (by omega) (by omega) ?_
                          refine j_topi (Z.1 12 i) (mr_arT hS (k := 2) (by omega) (by decide)) ?_
                          refine j_callV (kc := 0) (ks := 0) (a := 0) (b := 0) (d' := (d + 2)) (As := [.int (nI i), .int (Z.1 12 i)]) dX11_says_202 kX11_137 rfl (shM hM sgM_0) (by omega) rfl rfl rfl (Nat.le_of_ble_eq_true rfl) (Nat.le_of_ble_eq_true rfl) (T_X11_hums hM hS okS i (by omega) (Z.1 12 i) (isC_P okS (okS.th hi).2.2.1)) (kk_p ?_)
                          refine j_iret dX11_says_205 rfl ?_
                          have hz : saysK Z q k = ((humT Z.1 i (Z.1 12 i)), Z) := by
                            clear hQ
                            clear cv hM hS ok
                            have h01 := (okS.th hi).2.2.2
                            have hcl := nI_clamp (show i < 2 ^ 31 by omega)
                            have hin := i_ok hi (show nT Z.1 < 2 ^ 31 by omega)
                            have hone := one_all (q := q) (okS.th hi).1
                            have hsf := sfar_c (c := Z.1 12 i)
                            rw [← hp] at hin hcl
                            grind [saysK, cif, saysI, inZ, humT, lossT, may_1]
                          exact hQ _ _ ⟨by rw [hz], by rw [hz]; exact cv⟩
                        refine j_tableOut (tgt := 206) dX11_says_136 (by have q0 := lv_neT c40 (a := 0) (by decide); have q1 := lv_neT c41 (a := 1) (by decide); have q2 := lv_neT c42 (a := 2) (by decide); have q3 := lv_neT c43 (a := 3) (by decide); have q4 := lv_neT c44 (a := 4) (by decide); have q5 := lv_neT c45 (a := 5) (by decide); have q6 := lv_neT c46 (a := 6) (by decide); omega) rfl ?_
                        refine j_aload_n 3 dX11_says_206 rfl ?_
                        refine j_iload_n 2 dX11_says_207 rfl ?_
                        refine j_callV (kc := 0) (ks := 0) (a := 0) (b := 0) (d' := d) (As := [.int (nI i)]) dX11_says_208 kX11_141 rfl (shM hM sgM_0) (by omega) rfl rfl rfl (Nat.le_of_ble_eq_true rfl) (Nat.le_of_ble_eq_true rfl) (T_X11_loss hM hS okS i (by omega)) (kk_p ?_)
                        refine j_iret dX11_says_211 rfl ?_
                        have hz : saysK Z q k = ((lossT Z.1 i), Z) := by
                          clear hQ
                          clear cv hM hS ok
                          have h01 := (okS.th hi).2.2.2
                          have hcl := nI_clamp (show i < 2 ^ 31 by omega)
                          have hin := i_ok hi (show nT Z.1 < 2 ^ 31 by omega)
                          have hone := one_all (q := q) (okS.th hi).1
                          have hsf := sfar_c (c := Z.1 12 i)
                          rw [← hp] at hin hcl
                          grind [saysK, cif, saysI, inZ, humT, lossT, may_1]
                        exact hQ _ _ ⟨by rw [hz], by rw [hz]; exact cv⟩
                      · refine j_iload 0 dX11_says_123 rfl ?_
                        refine j_if_ne (tgt := 135) dX11_says_125 rfl (fun c47 => ?_) (fun c47 => ?_)
                        · exact absurd c47 (by decide)
                        · refine j_aload_n 3 dX11_says_128 rfl ?_
                          refine j_bipush (-2) dX11_says_129 bp_n2 ?_
                          refine j_callV (kc := 0) (ks := 0) (a := 0) (b := 0) (d' := d) (As := [.int (-2)]) dX11_says_131 kX11_130 rfl (shM hM sgM_0) (by omega) rfl rfl rfl (Nat.le_of_ble_eq_true rfl) (Nat.le_of_ble_eq_true rfl) (T_X11_no hM (-2) (by decide)) (kk_p ?_)
                          refine j_iret dX11_says_134 rfl ?_
                          have hz : saysK Z q k = ((-2), (refZ Z (-2))) := by
                            clear hQ
                            clear cv hM hS ok
                            have h01 := (okS.th hi).2.2.2
                            have hcl := nI_clamp (show i < 2 ^ 31 by omega)
                            have hin := i_ok hi (show nT Z.1 < 2 ^ 31 by omega)
                            have hone := one_all (q := q) (okS.th hi).1
                            have hsf := sfar_c (c := Z.1 12 i)
                            rw [← hp] at hin hcl
                            grind [saysK, cif, saysI, inZ, humT, lossT, may_1]
                          exact hQ _ _ ⟨by rw [hz], by rw [hz]; exact MV.rf cv (by decide)⟩
                  · refine j_iconst 1 dX11_says_106 ic_1 ?_
                    refine j_goto (tgt := 111) dX11_says_107 rfl ?_
                    refine j_istore (L' := [(5, .int 1), (4, .int (Z.1 10 i)), (3, .int (nI i)), (0, .ref 0), (1, .int (nI k)), (2, .int q)]) dX11_says_111 (by decide) rfl ?_
                    refine j_iload_n 5 dX11_says_113 rfl ?_
                    refine j_if_eq (tgt := 135) dX11_says_114 rfl (fun c48 => ?_) (fun c48 => ?_)
                    · refine j_iload_n 5 dX11_says_135 rfl ?_
                      by_cases c50 : q = 0
                      · refine j_tableIn (tgt := 180) dX11_says_136 (by rw [c50]; decide) (by rw [c50]; decide) (off := 44) (by rw [c50]; decide) rfl ?_
                        refine j_aload_n 3 dX11_says_180 rfl ?_
                        refine j_getr (q := 4) dX11_says_181 fX11_35 (shM hM sgM_0) rfl (rfM hM rfM_0_12) ?_
                        refine j_iload_n 2 dX11_says_184 rfl ?_
                        refine j_ialdN i dX11_says_185 (shM hM sgM_4) (by omega) (by omega) ?_
                        refine j_topi (Z.1 12 i) (mr_arT hS (k := 2) (by omega) (by decide)) ?_
                        refine j_iret dX11_says_186 rfl ?_
                        have hz : saysK Z q k = ((Z.1 12 i), Z) := by
                          clear hQ
                          clear cv hM hS ok
                          have h01 := (okS.th hi).2.2.2
                          have hcl := nI_clamp (show i < 2 ^ 31 by omega)
                          have hin := i_ok hi (show nT Z.1 < 2 ^ 31 by omega)
                          have hone := one_all (q := q) (okS.th hi).1
                          have hsf := sfar_c (c := Z.1 12 i)
                          rw [← hp] at hin hcl
                          grind [saysK, cif, saysI, inZ, humT, lossT, may_1]
                        exact hQ _ _ ⟨by rw [hz], by rw [hz]; exact cv⟩
                      by_cases c51 : q = 1
                      · refine j_tableIn (tgt := 206) dX11_says_136 (by rw [c51]; decide) (by rw [c51]; decide) (off := 70) (by rw [c51]; decide) rfl ?_
                        refine j_aload_n 3 dX11_says_206 rfl ?_
                        refine j_iload_n 2 dX11_says_207 rfl ?_
                        refine j_callV (kc := 0) (ks := 0) (a := 0) (b := 0) (d' := d) (As := [.int (nI i)]) dX11_says_208 kX11_141 rfl (shM hM sgM_0) (by omega) rfl rfl rfl (Nat.le_of_ble_eq_true rfl) (Nat.le_of_ble_eq_true rfl) (T_X11_loss hM hS okS i (by omega)) (kk_p ?_)
                        refine j_iret dX11_says_211 rfl ?_
                        have hz : saysK Z q k = ((lossT Z.1 i), Z) := by
                          clear hQ
                          clear cv hM hS ok
                          have h01 := (okS.th hi).2.2.2
                          have hcl := nI_clamp (show i < 2 ^ 31 by omega)
                          have hin := i_ok hi (show nT Z.1 < 2 ^ 31 by omega)
                          have hone := one_all (q := q) (okS.th hi).1
                          have hsf := sfar_c (c := Z.1 12 i)
                          rw [← hp] at hin hcl
                          grind [saysK, cif, saysI, inZ, humT, lossT, may_1]
                        exact hQ _ _ ⟨by rw [hz], by rw [hz]; exact cv⟩
                      by_cases c52 : q = 2
                      · refine j_tableIn (tgt := 187) dX11_says_136 (by rw [c52]; decide) (by rw [c52]; decide) (off := 51) (by rw [c52]; decide) rfl ?_
                        refine j_aload_n 3 dX11_says_187 rfl ?_
                        refine j_getr (q := 5) dX11_says_188 fX11_38 (shM hM sgM_0) rfl (rfM hM rfM_0_13) ?_
                        refine j_iload_n 2 dX11_says_191 rfl ?_
                        refine j_ialdN i dX11_says_192 (shM hM sgM_5) (by omega) (by omega) ?_
                        refine j_topi (Z.1 13 i) (mr_arT hS (k := 3) (by omega) (by decide)) ?_
                        refine j_iret dX11_says_193 rfl ?_
                        have hz : saysK Z q k = ((Z.1 13 i), Z) := by
                          clear hQ
                          clear cv hM hS ok
                          have h01 := (okS.th hi).2.2.2
                          have hcl := nI_clamp (show i < 2 ^ 31 by omega)
                          have hin := i_ok hi (show nT Z.1 < 2 ^ 31 by omega)
                          have hone := one_all (q := q) (okS.th hi).1
                          have hsf := sfar_c (c := Z.1 12 i)
                          rw [← hp] at hin hcl
                          grind [saysK, cif, saysI, inZ, humT, lossT, may_1]
                        exact hQ _ _ ⟨by rw [hz], by rw [hz]; exact cv⟩
                      by_cases c53 : q = 3
                      · refine j_tableIn (tgt := 206) dX11_says_136 (by rw [c53]; decide) (by rw [c53]; decide) (off := 70) (by rw [c53]; decide) rfl ?_
                        refine j_aload_n 3 dX11_says_206 rfl ?_
                        refine j_iload_n 2 dX11_says_207 rfl ?_
                        refine j_callV (kc := 0) (ks := 0) (a := 0) (b := 0) (d' := d) (As := [.int (nI i)]) dX11_says_208 kX11_141 rfl (shM hM sgM_0) (by omega) rfl rfl rfl (Nat.le_of_ble_eq_true rfl) (Nat.le_of_ble_eq_true rfl) (T_X11_loss hM hS okS i (by omega)) (kk_p ?_)
                        refine j_iret dX11_says_211 rfl ?_
                        have hz : saysK Z q k = ((lossT Z.1 i), Z) := by
                          clear hQ
                          clear cv hM hS ok
                          have h01 := (okS.th hi).2.2.2
                          have hcl := nI_clamp (show i < 2 ^ 31 by omega)
                          have hin := i_ok hi (show nT Z.1 < 2 ^ 31 by omega)
                          have hone := one_all (q := q) (okS.th hi).1
                          have hsf := sfar_c (c := Z.1 12 i)
                          rw [← hp] at hin hcl
                          grind [saysK, cif, saysI, inZ, humT, lossT, may_1]
                        exact hQ _ _ ⟨by rw [hz], by rw [hz]; exact cv⟩
                      by_cases c54 : q = 4
                      · refine j_tableIn (tgt := 194) dX11_says_136 (by rw [c54]; decide) (by rw [c54]; decide) (off := 58) (by rw [c54]; decide) rfl ?_
                        refine j_aload_n 3 dX11_says_194 rfl ?_
                        refine j_iload_n 2 dX11_says_195 rfl ?_
                        refine j_aload_n 3 dX11_says_196 rfl ?_
                        refine j_getr (q := 4) dX11_says_197 fX11_35 (shM hM sgM_0) rfl (rfM hM rfM_0_12) ?_
                        refine j_iload_n 2 dX11_says_200 rfl ?_
                        refine j_ialdN i dX11_says_201 (shM hM sgM_4) (by omega) (by omega) ?_
                        refine j_topi (Z.1 12 i) (mr_arT hS (k := 2) (by omega) (by decide)) ?_
                        refine j_callV (kc := 0) (ks := 0) (a := 0) (b := 0) (d' := (d + 2)) (As := [.int (nI i), .int (Z.1 12 i)]) dX11_says_202 kX11_137 rfl (shM hM sgM_0) (by omega) rfl rfl rfl (Nat.le_of_ble_eq_true rfl) (Nat.le_of_ble_eq_true rfl) (T_X11_hums hM hS okS i (by omega) (Z.1 12 i) (isC_P okS (okS.th hi).2.2.1)) (kk_p ?_)
                        refine j_iret dX11_says_205 rfl ?_
                        have hz : saysK Z q k = ((humT Z.1 i (Z.1 12 i)), Z) := by
                          clear hQ
                          clear cv hM hS ok
                          have h01 := (okS.th hi).2.2.2
                          have hcl := nI_clamp (show i < 2 ^ 31 by omega)
                          have hin := i_ok hi (show nT Z.1 < 2 ^ 31 by omega)
                          have hone := one_all (q := q) (okS.th hi).1
                          have hsf := sfar_c (c := Z.1 12 i)
                          rw [← hp] at hin hcl
                          grind [saysK, cif, saysI, inZ, humT, lossT, may_1]
                        exact hQ _ _ ⟨by rw [hz], by rw [hz]; exact cv⟩
                      by_cases c55 : q = 5
                      · refine j_tableIn (tgt := 206) dX11_says_136 (by rw [c55]; decide) (by rw [c55]; decide) (off := 70) (by rw [c55]; decide) rfl ?_
                        refine j_aload_n 3 dX11_says_206 rfl ?_
                        refine j_iload_n 2 dX11_says_207 rfl ?_
                        refine j_callV (kc := 0) (ks := 0) (a := 0) (b := 0) (d' := d) (As := [.int (nI i)]) dX11_says_208 kX11_141 rfl (shM hM sgM_0) (by omega) rfl rfl rfl (Nat.le_of_ble_eq_true rfl) (Nat.le_of_ble_eq_true rfl) (T_X11_loss hM hS okS i (by omega)) (kk_p ?_)
                        refine j_iret dX11_says_211 rfl ?_
                        have hz : saysK Z q k = ((lossT Z.1 i), Z) := by
                          clear hQ
                          clear cv hM hS ok
                          have h01 := (okS.th hi).2.2.2
                          have hcl := nI_clamp (show i < 2 ^ 31 by omega)
                          have hin := i_ok hi (show nT Z.1 < 2 ^ 31 by omega)
                          have hone := one_all (q := q) (okS.th hi).1
                          have hsf := sfar_c (c := Z.1 12 i)
                          rw [← hp] at hin hcl
                          grind [saysK, cif, saysI, inZ, humT, lossT, may_1]
                        exact hQ _ _ ⟨by rw [hz], by rw [hz]; exact cv⟩
                      by_cases c56 : q = 6
                      · refine j_tableIn (tgt := 194) dX11_says_136 (by rw [c56]; decide) (by rw [c56]; decide) (off := 58) (by rw [c56]; decide) rfl ?_
                        refine j_aload_n 3 dX11_says_194 rfl ?_
                        refine j_iload_n 2 dX11_says_195 rfl ?_
                        refine j_aload_n 3 dX11_says_196 rfl ?_
                        refine j_getr (q := 4) dX11_says_197 fX11_35 (shM hM sgM_0) rfl (rfM hM rfM_0_12) ?_
                        refine j_iload_n 2 dX11_says_200 rfl ?_
                        refine j_ialdN i dX11_says_201 (shM hM sgM_4) (by omega) (by omega) ?_
                        refine j_topi (Z.1 12 i) (mr_arT hS (k := 2) (by omega) (by decide)) ?_
                        refine j_callV (kc := 0) (ks := 0) (a := 0) (b := 0) (d' := (d + 2)) (As := [.int (nI i), .int (Z.1 12 i)]) dX11_says_202 kX11_137 rfl (shM hM sgM_0) (by omega) rfl rfl rfl (Nat.le_of_ble_eq_true rfl) (Nat.le_of_ble_eq_true rfl) (T_X11_hums hM hS okS i (by omega) (Z.1 12 i) (isC_P okS (okS.th hi).2.2.1)) (kk_p ?_)
                        refine j_iret dX11_says_205 rfl ?_
                        have hz : saysK Z q k = ((humT Z.1 i (Z.1 12 i)), Z) := by
                          clear hQ
                          clear cv hM hS ok
                          have h01 := (okS.th hi).2.2.2
                          have hcl := nI_clamp (show i < 2 ^ 31 by omega)
                          have hin := i_ok hi (show nT Z.1 < 2 ^ 31 by omega)
                          have hone := one_all (q := q) (okS.th hi).1
                          have hsf := sfar_c (c := Z.1 12 i)
                          rw [← hp] at hin hcl
                          grind [saysK, cif, saysI, inZ, humT, lossT, may_1]
                        exact hQ _ _ ⟨by rw [hz], by rw [hz]; exact cv⟩
                      refine j_tableOut (tgt := 206) dX11_says_136 (by have q0 := lv_neT c50 (a := 0) (by decide); have q1 := lv_neT c51 (a := 1) (by decide); have q2 := lv_neT c52 (a := 2) (by decide); have q3 := lv_neT c53 (a := 3) (by decide); have q4 := lv_neT c54 (a := 4) (by decide); have q5 := lv_neT c55 (a := 5) (by decide); have q6 := lv_neT c56 (a := 6) (by decide); omega) rfl ?_
                      refine j_aload_n 3 dX11_says_206 rfl ?_
                      refine j_iload_n 2 dX11_says_207 rfl ?_
                      refine j_callV (kc := 0) (ks := 0) (a := 0) (b := 0) (d' := d) (As := [.int (nI i)]) dX11_says_208 kX11_141 rfl (shM hM sgM_0) (by omega) rfl rfl rfl (Nat.le_of_ble_eq_true rfl) (Nat.le_of_ble_eq_true rfl) (T_X11_loss hM hS okS i (by omega)) (kk_p ?_)
                      refine j_iret dX11_says_211 rfl ?_
                      have hz : saysK Z q k = ((lossT Z.1 i), Z) := by
                        clear hQ
                        clear cv hM hS ok
                        have h01 := (okS.th hi).2.2.2
                        have hcl := nI_clamp (show i < 2 ^ 31 by omega)
                        have hin := i_ok hi (show nT Z.1 < 2 ^ 31 by omega)
                        have hone := one_all (q := q) (okS.th hi).1
                        have hsf := sfar_c (c := Z.1 12 i)
                        rw [← hp] at hin hcl
                        grind [saysK, cif, saysI, inZ, humT, lossT, may_1]
                      exact hQ _ _ ⟨by rw [hz], by rw [hz]; exact cv⟩
                    · refine j_iload_n 5 dX11_says_117 rfl ?_
                      refine j_iload 1 dX11_says_118 rfl ?_
                      refine j_icmp_eq (tgt := 135) dX11_says_120 rfl (fun c57 => ?_) (fun c57 => ?_)
                      · refine j_iload_n 5 dX11_says_135 rfl ?_
                        by_cases c59 : q = 0
                        · refine j_tableIn (tgt := 180) dX11_says_136 (by rw [c59]; decide) (by rw [c59]; decide) (off := 44) (by rw [c59]; decide) rfl ?_
                          refine j_aload_n 3 dX11_says_180 rfl ?_
                          refine j_getr (q := 4) dX11_says_181 fX11_35 (shM hM sgM_0) rfl (rfM hM rfM_0_12) ?_
                          refine j_iload_n 2 dX11_says_184 rfl ?_
                          refine j_ialdN i dX11_says_185 (shM hM sgM_4) (by omega) (by omega) ?_
                          refine j_topi (Z.1 12 i) (mr_arT hS (k := 2) (by omega) (by decide)) ?_
                          refine j_iret dX11_says_186 rfl ?_
                          have hz : saysK Z q k = ((Z.1 12 i), Z) := by
                            clear hQ
                            clear cv hM hS ok
                            have h01 := (okS.th hi).2.2.2
                            have hcl := nI_clamp (show i < 2 ^ 31 by omega)
                            have hin := i_ok hi (show nT Z.1 < 2 ^ 31 by omega)
                            have hone := one_all (q := q) (okS.th hi).1
                            have hsf := sfar_c (c := Z.1 12 i)
                            rw [← hp] at hin hcl
                            grind [saysK, cif, saysI, inZ, humT, lossT, may_1]
                          exact hQ _ _ ⟨by rw [hz], by rw [hz]; exact cv⟩
                        by_cases c60 : q = 1
                        · refine j_tableIn (tgt := 206) dX11_says_136 (by rw [c60]; decide) (by rw [c60]; decide) (off := 70) (by rw [c60]; decide) rfl ?_
                          refine j_aload_n 3 dX11_says_206 rfl ?_
                          refine j_iload_n 2 dX11_says_207 rfl ?_
                          refine j_callV (kc := 0) (ks := 0) (a := 0) (b := 0) (d' := d) (As := [.int (nI i)]) dX11_says_208 kX11_141 rfl (shM hM sgM_0) (by omega) rfl rfl rfl (Nat.le_of_ble_eq_true rfl) (Nat.le_of_ble_eq_true rfl) (T_X11_loss hM hS okS i (by omega)) (kk_p ?_)
                          refine j_iret dX11_says_211 rfl ?_
                          have hz : saysK Z q k = ((lossT Z.1 i), Z) := by
                            clear hQ
                            clear cv hM hS ok
                            have h01 := (okS.th hi).2.2.2
                            have hcl := nI_clamp (show i < 2 ^ 31 by omega)
                            have hin := i_ok hi (show nT Z.1 < 2 ^ 31 by omega)
                            have hone := one_all (q := q) (okS.th hi).1
                            have hsf := sfar_c (c := Z.1 12 i)
                            rw [← hp] at hin hcl
                            grind [saysK, cif, saysI, inZ, humT, lossT, may_1]
                          exact hQ _ _ ⟨by rw [hz], by rw [hz]; exact cv⟩
                        by_cases c61 : q = 2
                        · refine j_tableIn (tgt := 187) dX11_says_136 (by rw [c61]; decide) (by rw [c61]; decide) (off := 51) (by rw [c61]; decide) rfl ?_
                          refine j_aload_n 3 dX11_says_187 rfl ?_
                          refine j_getr (q := 5) dX11_says_188 fX11_38 (shM hM sgM_0) rfl (rfM hM rfM_0_13) ?_
                          refine j_iload_n 2 dX11_says_191 rfl ?_
                          refine j_ialdN i dX11_says_192 (shM hM sgM_5) (by omega) (by omega) ?_
                          refine j_topi (Z.1 13 i) (mr_arT hS (k := 3) (by omega) (by decide)) ?_
                          refine j_iret dX11_says_193 rfl ?_
                          have hz : saysK Z q k = ((Z.1 13 i), Z) := by
                            clear hQ
                            clear cv hM hS ok
                            have h01 := (okS.th hi).2.2.2
                            have hcl := nI_clamp (show i < 2 ^ 31 by omega)
                            have hin := i_ok hi (show nT Z.1 < 2 ^ 31 by omega)
                            have hone := one_all (q := q) (okS.th hi).1
                            have hsf := sfar_c (c := Z.1 12 i)
                            rw [← hp] at hin hcl
                            grind [saysK, cif, saysI, inZ, humT, lossT, may_1]
                          exact hQ _ _ ⟨by rw [hz], by rw [hz]; exact cv⟩
                        by_cases c62 : q = 3
                        · refine j_tableIn (tgt := 206) dX11_says_136 (by rw [c62]; decide) (by rw [c62]; decide) (off := 70) (by rw [c62]; decide) rfl ?_
                          refine j_aload_n 3 dX11_says_206 rfl ?_
                          refine j_iload_n 2 dX11_says_207 rfl ?_
                          refine j_callV (kc := 0) (ks := 0) (a := 0) (b := 0) (d' := d) (As := [.int (nI i)]) dX11_says_208 kX11_141 rfl (shM hM sgM_0) (by omega) rfl rfl rfl (Nat.le_of_ble_eq_true rfl) (Nat.le_of_ble_eq_true rfl) (T_X11_loss hM hS okS i (by omega)) (kk_p ?_)
                          refine j_iret dX11_says_211 rfl ?_
                          have hz : saysK Z q k = ((lossT Z.1 i), Z) := by
                            clear hQ
                            clear cv hM hS ok
                            have h01 := (okS.th hi).2.2.2
                            have hcl := nI_clamp (show i < 2 ^ 31 by omega)
                            have hin := i_ok hi (show nT Z.1 < 2 ^ 31 by omega)
                            have hone := one_all (q := q) (okS.th hi).1
                            have hsf := sfar_c (c := Z.1 12 i)
                            rw [← hp] at hin hcl
                            grind [saysK, cif, saysI, inZ, humT, lossT, may_1]
                          exact hQ _ _ ⟨by rw [hz], by rw [hz]; exact cv⟩
                        by_cases c63 : q = 4
                        · refine j_tableIn (tgt := 194) dX11_says_136 (by rw [c63]; decide) (by rw [c63]; decide) (off := 58) (by rw [c63]; decide) rfl ?_
                          refine j_aload_n 3 dX11_says_194 rfl ?_
                          refine j_iload_n 2 dX11_says_195 rfl ?_
                          refine j_aload_n 3 dX11_says_196 rfl ?_
                          refine j_getr (q := 4) dX11_says_197 fX11_35 (shM hM sgM_0) rfl (rfM hM rfM_0_12) ?_
                          refine j_iload_n 2 dX11_says_200 rfl ?_
                          refine j_ialdN i dX11_says_201 (shM hM sgM_4) (by omega) (by omega) ?_
                          refine j_topi (Z.1 12 i) (mr_arT hS (k := 2) (by omega) (by decide)) ?_
                          refine j_callV (kc := 0) (ks := 0) (a := 0) (b := 0) (d' := (d + 2)) (As := [.int (nI i), .int (Z.1 12 i)]) dX11_says_202 kX11_137 rfl (shM hM sgM_0) (by omega) rfl rfl rfl (Nat.le_of_ble_eq_true rfl) (Nat.le_of_ble_eq_true rfl) (T_X11_hums hM hS okS i (by omega) (Z.1 12 i) (isC_P okS (okS.th hi).2.2.1)) (kk_p ?_)
                          refine j_iret dX11_says_205 rfl ?_
                          have hz : saysK Z q k = ((humT Z.1 i (Z.1 12 i)), Z) := by
                            clear hQ
                            clear cv hM hS ok
                            have h01 := (okS.th hi).2.2.2
                            have hcl := nI_clamp (show i < 2 ^ 31 by omega)
                            have hin := i_ok hi (show nT Z.1 < 2 ^ 31 by omega)
                            have hone := one_all (q := q) (okS.th hi).1
                            have hsf := sfar_c (c := Z.1 12 i)
                            rw [← hp] at hin hcl
                            grind [saysK, cif, saysI, inZ, humT, lossT, may_1]
                          exact hQ _ _ ⟨by rw [hz], by rw [hz]; exact cv⟩
                        by_cases c64 : q = 5
                        · refine j_tableIn (tgt := 206) dX11_says_136 (by rw [c64]; decide) (by rw [c64]; decide) (off := 70) (by rw [c64]; decide) rfl ?_
                          refine j_aload_n 3 dX11_says_206 rfl ?_
                          refine j_iload_n 2 dX11_says_207 rfl ?_
                          refine j_callV (kc := 0) (ks := 0) (a := 0) (b := 0) (d' := d) (As := [.int (nI i)]) dX11_says_208 kX11_141 rfl (shM hM sgM_0) (by omega) rfl rfl rfl (Nat.le_of_ble_eq_true rfl) (Nat.le_of_ble_eq_true rfl) (T_X11_loss hM hS okS i (by omega)) (kk_p ?_)
                          refine j_iret dX11_says_211 rfl ?_
                          have hz : saysK Z q k = ((lossT Z.1 i), Z) := by
                            clear hQ
                            clear cv hM hS ok
                            have h01 := (okS.th hi).2.2.2
                            have hcl := nI_clamp (show i < 2 ^ 31 by omega)
                            have hin := i_ok hi (show nT Z.1 < 2 ^ 31 by omega)
                            have hone := one_all (q := q) (okS.th hi).1
                            have hsf := sfar_c (c := Z.1 12 i)
                            rw [← hp] at hin hcl
                            grind [saysK, cif, saysI, inZ, humT, lossT, may_1]
                          exact hQ _ _ ⟨by rw [hz], by rw [hz]; exact cv⟩
                        by_cases c65 : q = 6
                        · refine j_tableIn (tgt := 194) dX11_says_136 (by rw [c65]; decide) (by rw [c65]; decide) (off := 58) (by rw [c65]; decide) rfl ?_
                          refine j_aload_n 3 dX11_says_194 rfl ?_
                          refine j_iload_n 2 dX11_says_195 rfl ?_
                          refine j_aload_n 3 dX11_says_196 rfl ?_
                          refine j_getr (q := 4) dX11_says_197 fX11_35 (shM hM sgM_0) rfl (rfM hM rfM_0_12) ?_
                          refine j_iload_n 2 dX11_says_200 rfl ?_
                          refine j_ialdN i dX11_says_201 (shM hM sgM_4) (by omega) (by omega) ?_
                          refine j_topi (Z.1 12 i) (mr_arT hS (k := 2) (by omega) (by decide)) ?_
                          refine j_callV (kc := 0) (ks := 0) (a := 0) (b := 0) (d' := (d + 2)) (As := [.int (nI i), .int (Z.1 12 i)]) dX11_says_202 kX11_137 rfl (shM hM sgM_0) (by omega) rfl rfl rfl (Nat.le_of_ble_eq_true rfl) (Nat.le_of_ble_eq_true rfl) (T_X11_hums hM hS okS i (by omega) (Z.1 12 i) (isC_P okS (okS.th hi).2.2.1)) (kk_p ?_)
                          refine j_iret dX11_says_205 rfl ?_
                          have hz : saysK Z q k = ((humT Z.1 i (Z.1 12 i)), Z) := by
                            clear hQ
                            clear cv hM hS ok
                            have h01 := (okS.th hi).2.2.2
                            have hcl := nI_clamp (show i < 2 ^ 31 by omega)
                            have hin := i_ok hi (show nT Z.1 < 2 ^ 31 by omega)
                            have hone := one_all (q := q) (okS.th hi).1
                            have hsf := sfar_c (c := Z.1 12 i)
                            rw [← hp] at hin hcl
                            grind [saysK, cif, saysI, inZ, humT, lossT, may_1]
                          exact hQ _ _ ⟨by rw [hz], by rw [hz]; exact cv⟩
                        refine j_tableOut (tgt := 206) dX11_says_136 (by have q0 := lv_neT c59 (a := 0) (by decide); have q1 := lv_neT c60 (a := 1) (by decide); have q2 := lv_neT c61 (a := 2) (by decide); have q3 := lv_neT c62 (a := 3) (by decide); have q4 := lv_neT c63 (a := 4) (by decide); have q5 := lv_neT c64 (a := 5) (by decide); have q6 := lv_neT c65 (a := 6) (by decide); omega) rfl ?_
                        refine j_aload_n 3 dX11_says_206 rfl ?_
                        refine j_iload_n 2 dX11_says_207 rfl ?_
                        refine j_callV (kc := 0) (ks := 0) (a := 0) (b := 0) (d' := d) (As := [.int (nI i)]) dX11_says_208 kX11_141 rfl (shM hM sgM_0) (by omega) rfl rfl rfl (Nat.le_of_ble_eq_true rfl) (Nat.le_of_ble_eq_true rfl) (T_X11_loss hM hS okS i (by omega)) (kk_p ?_)
                        refine j_iret dX11_says_211 rfl ?_
                        have hz : saysK Z q k = ((lossT Z.1 i), Z) := by
                          clear hQ
                          clear cv hM hS ok
                          have h01 := (okS.th hi).2.2.2
                          have hcl := nI_clamp (show i < 2 ^ 31 by omega)
                          have hin := i_ok hi (show nT Z.1 < 2 ^ 31 by omega)
                          have hone := one_all (q := q) (okS.th hi).1
                          have hsf := sfar_c (c := Z.1 12 i)
                          rw [← hp] at hin hcl
                          grind [saysK, cif, saysI, inZ, humT, lossT, may_1]
                        exact hQ _ _ ⟨by rw [hz], by rw [hz]; exact cv⟩
                      · refine j_iload 0 dX11_says_123 rfl ?_
                        refine j_if_ne (tgt := 135) dX11_says_125 rfl (fun c66 => ?_) (fun c66 => ?_)
                        · refine j_iload_n 5 dX11_says_135 rfl ?_
                          by_cases c68 : q = 0
                          · refine j_tableIn (tgt := 180) dX11_says_136 (by rw [c68]; decide) (by rw [c68]; decide) (off := 44) (by rw [c68]; decide) rfl ?_
                            refine j_aload_n 3 dX11_says_180 rfl ?_
                            refine j_getr (q := 4) dX11_says_181 fX11_35 (shM hM sgM_0) rfl (rfM hM rfM_0_12) ?_
                            refine j_iload_n 2 dX11_says_184 rfl ?_
                            refine j_ialdN i dX11_says_185 (shM hM sgM_4) (by omega) (by omega) ?_
                            refine j_topi (Z.1 12 i) (mr_arT hS (k := 2) (by omega) (by decide)) ?_
                            refine j_iret dX11_says_186 rfl ?_
                            have hz : saysK Z q k = ((Z.1 12 i), Z) := by
                              clear hQ
                              clear cv hM hS ok
                              have h01 := (okS.th hi).2.2.2
                              have hcl := nI_clamp (show i < 2 ^ 31 by omega)
                              have hin := i_ok hi (show nT Z.1 < 2 ^ 31 by omega)
                              have hone := one_all (q := q) (okS.th hi).1
                              have hsf := sfar_c (c := Z.1 12 i)
                              rw [← hp] at hin hcl
                              grind [saysK, cif, saysI, inZ, humT, lossT, may_1]
                            exact hQ _ _ ⟨by rw [hz], by rw [hz]; exact cv⟩
                          by_cases c69 : q = 1
                          · refine j_tableIn (tgt := 206) dX11_says_136 (by rw [c69]; decide) (by rw [c69]; decide) (off := 70) (by rw [c69]; decide) rfl ?_
                            refine j_aload_n 3 dX11_says_206 rfl ?_
                            refine j_iload_n 2 dX11_says_207 rfl ?_
                            refine j_callV (kc := 0) (ks := 0) (a := 0) (b := 0) (d' := d) (As := [.int (nI i)]) dX11_says_208 kX11_141 rfl (shM hM sgM_0) (by omega) rfl rfl rfl (Nat.le_of_ble_eq_true rfl) (Nat.le_of_ble_eq_true rfl) (T_X11_loss hM hS okS i (by omega)) (kk_p ?_)
                            refine j_iret dX11_says_211 rfl ?_
                            have hz : saysK Z q k = ((lossT Z.1 i), Z) := by
                              clear hQ
                              clear cv hM hS ok
                              have h01 := (okS.th hi).2.2.2
                              have hcl := nI_clamp (show i < 2 ^ 31 by omega)
                              have hin := i_ok hi (show nT Z.1 < 2 ^ 31 by omega)
                              have hone := one_all (q := q) (okS.th hi).1
                              have hsf := sfar_c (c := Z.1 12 i)
                              rw [← hp] at hin hcl
                              grind [saysK, cif, saysI, inZ, humT, lossT, may_1]
                            exact hQ _ _ ⟨by rw [hz], by rw [hz]; exact cv⟩
                          by_cases c70 : q = 2
                          · refine j_tableIn (tgt := 187) dX11_says_136 (by rw [c70]; decide) (by rw [c70]; decide) (off := 51) (by rw [c70]; decide) rfl ?_
                            refine j_aload_n 3 dX11_says_187 rfl ?_
                            refine j_getr (q := 5) dX11_says_188 fX11_38 (shM hM sgM_0) rfl (rfM hM rfM_0_13) ?_
                            refine j_iload_n 2 dX11_says_191 rfl ?_
                            refine j_ialdN i dX11_says_192 (shM hM sgM_5) (by omega) (by omega) ?_
                            refine j_topi (Z.1 13 i) (mr_arT hS (k := 3) (by omega) (by decide)) ?_
                            refine j_iret dX11_says_193 rfl ?_
                            have hz : saysK Z q k = ((Z.1 13 i), Z) := by
                              clear hQ
                              clear cv hM hS ok
                              have h01 := (okS.th hi).2.2.2
                              have hcl := nI_clamp (show i < 2 ^ 31 by omega)
                              have hin := i_ok hi (show nT Z.1 < 2 ^ 31 by omega)
                              have hone := one_all (q := q) (okS.th hi).1
                              have hsf := sfar_c (c := Z.1 12 i)
                              rw [← hp] at hin hcl
                              grind [saysK, cif, saysI, inZ, humT, lossT, may_1]
                            exact hQ _ _ ⟨by rw [hz], by rw [hz]; exact cv⟩
                          by_cases c71 : q = 3
                          · refine j_tableIn (tgt := 206) dX11_says_136 (by rw [c71]; decide) (by rw [c71]; decide) (off := 70) (by rw [c71]; decide) rfl ?_
                            refine j_aload_n 3 dX11_says_206 rfl ?_
                            refine j_iload_n 2 dX11_says_207 rfl ?_
                            refine j_callV (kc := 0) (ks := 0) (a := 0) (b := 0) (d' := d) (As := [.int (nI i)]) dX11_says_208 kX11_141 rfl (shM hM sgM_0) (by omega) rfl rfl rfl (Nat.le_of_ble_eq_true rfl) (Nat.le_of_ble_eq_true rfl) (T_X11_loss hM hS okS i (by omega)) (kk_p ?_)
                            refine j_iret dX11_says_211 rfl ?_
                            have hz : saysK Z q k = ((lossT Z.1 i), Z) := by
                              clear hQ
                              clear cv hM hS ok
                              have h01 := (okS.th hi).2.2.2
                              have hcl := nI_clamp (show i < 2 ^ 31 by omega)
                              have hin := i_ok hi (show nT Z.1 < 2 ^ 31 by omega)
                              have hone := one_all (q := q) (okS.th hi).1
                              have hsf := sfar_c (c := Z.1 12 i)
                              rw [← hp] at hin hcl
                              grind [saysK, cif, saysI, inZ, humT, lossT, may_1]
                            exact hQ _ _ ⟨by rw [hz], by rw [hz]; exact cv⟩
                          by_cases c72 : q = 4
                          · refine j_tableIn (tgt := 194) dX11_says_136 (by rw [c72]; decide) (by rw [c72]; decide) (off := 58) (by rw [c72]; decide) rfl ?_
                            refine j_aload_n 3 dX11_says_194 rfl ?_
                            refine j_iload_n 2 dX11_says_195 rfl ?_
                            refine j_aload_n 3 dX11_says_196 rfl ?_
                            refine j_getr (q := 4) dX11_says_197 fX11_35 (shM hM sgM_0) rfl (rfM hM rfM_0_12) ?_
                            refine j_iload_n 2 dX11_says_200 rfl ?_
                            refine j_ialdN i dX11_says_201 (shM hM sgM_4) (by omega) (by omega) ?_
                            refine j_topi (Z.1 12 i) (mr_arT hS (k := 2) (by omega) (by decide)) ?_
                            refine j_callV (kc := 0) (ks := 0) (a := 0) (b := 0) (d' := (d + 2)) (As := [.int (nI i), .int (Z.1 12 i)]) dX11_says_202 kX11_137 rfl (shM hM sgM_0) (by omega) rfl rfl rfl (Nat.le_of_ble_eq_true rfl) (Nat.le_of_ble_eq_true rfl) (T_X11_hums hM hS okS i (by omega) (Z.1 12 i) (isC_P okS (okS.th hi).2.2.1)) (kk_p ?_)
                            refine j_iret dX11_says_205 rfl ?_
                            have hz : saysK Z q k = ((humT Z.1 i (Z.1 12 i)), Z) := by
                              clear hQ
                              clear cv hM hS ok
                              have h01 := (okS.th hi).2.2.2
                              have hcl := nI_clamp (show i < 2 ^ 31 by omega)
                              have hin := i_ok hi (show nT Z.1 < 2 ^ 31 by omega)
                              have hone := one_all (q := q) (okS.th hi).1
                              have hsf := sfar_c (c := Z.1 12 i)
                              rw [← hp] at hin hcl
                              grind [saysK, cif, saysI, inZ, humT, lossT, may_1]
                            exact hQ _ _ ⟨by rw [hz], by rw [hz]; exact cv⟩
                          by_cases c73 : q = 5
                          · refine j_tableIn (tgt := 206) dX11_says_136 (by rw [c73]; decide) (by rw [c73]; decide) (off := 70) (by rw [c73]; decide) rfl ?_
                            refine j_aload_n 3 dX11_says_206 rfl ?_
                            refine j_iload_n 2 dX11_says_207 rfl ?_
                            refine j_callV (kc := 0) (ks := 0) (a := 0) (b := 0) (d' := d) (As := [.int (nI i)]) dX11_says_208 kX11_141 rfl (shM hM sgM_0) (by omega) rfl rfl rfl (Nat.le_of_ble_eq_true rfl) (Nat.le_of_ble_eq_true rfl) (T_X11_loss hM hS okS i (by omega)) (kk_p ?_)
                            refine j_iret dX11_says_211 rfl ?_
                            have hz : saysK Z q k = ((lossT Z.1 i), Z) := by
                              clear hQ
                              clear cv hM hS ok
                              have h01 := (okS.th hi).2.2.2
                              have hcl := nI_clamp (show i < 2 ^ 31 by omega)
                              have hin := i_ok hi (show nT Z.1 < 2 ^ 31 by omega)
                              have hone := one_all (q := q) (okS.th hi).1
                              have hsf := sfar_c (c := Z.1 12 i)
                              rw [← hp] at hin hcl
                              grind [saysK, cif, saysI, inZ, humT, lossT, may_1]
                            exact hQ _ _ ⟨by rw [hz], by rw [hz]; exact cv⟩
                          by_cases c74 : q = 6
                          · refine j_tableIn (tgt := 194) dX11_says_136 (by rw [c74]; decide) (by rw [c74]; decide) (off := 58) (by rw [c74]; decide) rfl ?_
                            refine j_aload_n 3 dX11_says_194 rfl ?_
                            refine j_iload_n 2 dX11_says_195 rfl ?_
                            refine j_aload_n 3 dX11_says_196 rfl ?_
                            refine j_getr (q := 4) dX11_says_197 fX11_35 (shM hM sgM_0) rfl (rfM hM rfM_0_12) ?_
                            refine j_iload_n 2 dX11_says_200 rfl ?_
                            refine j_ialdN i dX11_says_201 (shM hM sgM_4) (by omega) (by omega) ?_
                            refine j_topi (Z.1 12 i) (mr_arT hS (k := 2) (by omega) (by decide)) ?_
                            refine j_callV (kc := 0) (ks := 0) (a := 0) (b := 0) (d' := (d + 2)) (As := [.int (nI i), .int (Z.1 12 i)]) dX11_says_202 kX11_137 rfl (shM hM sgM_0) (by omega) rfl rfl rfl (Nat.le_of_ble_eq_true rfl) (Nat.le_of_ble_eq_true rfl) (T_X11_hums hM hS okS i (by omega) (Z.1 12 i) (isC_P okS (okS.th hi).2.2.1)) (kk_p ?_)
                            refine j_iret dX11_says_205 rfl ?_
                            have hz : saysK Z q k = ((humT Z.1 i (Z.1 12 i)), Z) := by
                              clear hQ
                              clear cv hM hS ok
                              have h01 := (okS.th hi).2.2.2
                              have hcl := nI_clamp (show i < 2 ^ 31 by omega)
                              have hin := i_ok hi (show nT Z.1 < 2 ^ 31 by omega)
                              have hone := one_all (q := q) (okS.th hi).1
                              have hsf := sfar_c (c := Z.1 12 i)
                              rw [← hp] at hin hcl
                              grind [saysK, cif, saysI, inZ, humT, lossT, may_1]
                            exact hQ _ _ ⟨by rw [hz], by rw [hz]; exact cv⟩
                          refine j_tableOut (tgt := 206) dX11_says_136 (by have q0 := lv_neT c68 (a := 0) (by decide); have q1 := lv_neT c69 (a := 1) (by decide); have q2 := lv_neT c70 (a := 2) (by decide); have q3 := lv_neT c71 (a := 3) (by decide); have q4 := lv_neT c72 (a := 4) (by decide); have q5 := lv_neT c73 (a := 5) (by decide); have q6 := lv_neT c74 (a := 6) (by decide); omega) rfl ?_
                          refine j_aload_n 3 dX11_says_206 rfl ?_
                          refine j_iload_n 2 dX11_says_207 rfl ?_
                          refine j_callV (kc := 0) (ks := 0) (a := 0) (b := 0) (d' := d) (As := [.int (nI i)]) dX11_says_208 kX11_141 rfl (shM hM sgM_0) (by omega) rfl rfl rfl (Nat.le_of_ble_eq_true rfl) (Nat.le_of_ble_eq_true rfl) (T_X11_loss hM hS okS i (by omega)) (kk_p ?_)
                          refine j_iret dX11_says_211 rfl ?_
                          have hz : saysK Z q k = ((lossT Z.1 i), Z) := by
                            clear hQ
                            clear cv hM hS ok
                            have h01 := (okS.th hi).2.2.2
                            have hcl := nI_clamp (show i < 2 ^ 31 by omega)
                            have hin := i_ok hi (show nT Z.1 < 2 ^ 31 by omega)
                            have hone := one_all (q := q) (okS.th hi).1
                            have hsf := sfar_c (c := Z.1 12 i)
                            rw [← hp] at hin hcl
                            grind [saysK, cif, saysI, inZ, humT, lossT, may_1]
                          exact hQ _ _ ⟨by rw [hz], by rw [hz]; exact cv⟩
                        · exact absurd c66 (by decide)
              · refine j_iload 0 dX11_says_88 rfl ?_
                refine j_iconst 5 dX11_says_90 ic_5 ?_
                refine j_icmp_eq (tgt := 106) dX11_says_91 rfl (fun c75 => ?_) (fun c75 => ?_)
                · refine j_iconst 1 dX11_says_106 ic_1 ?_
                  refine j_goto (tgt := 111) dX11_says_107 rfl ?_
                  refine j_istore (L' := [(5, .int 1), (4, .int (Z.1 10 i)), (3, .int (nI i)), (0, .ref 0), (1, .int (nI k)), (2, .int q)]) dX11_says_111 (by decide) rfl ?_
                  refine j_iload_n 5 dX11_says_113 rfl ?_
                  refine j_if_eq (tgt := 135) dX11_says_114 rfl (fun c76 => ?_) (fun c76 => ?_)
                  · refine j_iload_n 5 dX11_says_135 rfl ?_
                    by_cases c78 : q = 0
                    · refine j_tableIn (tgt := 180) dX11_says_136 (by rw [c78]; decide) (by rw [c78]; decide) (off := 44) (by rw [c78]; decide) rfl ?_
                      refine j_aload_n 3 dX11_says_180 rfl ?_
                      refine j_getr (q := 4) dX11_says_181 fX11_35 (shM hM sgM_0) rfl (rfM hM rfM_0_12) ?_
                      refine j_iload_n 2 dX11_says_184 rfl ?_
                      refine j_ialdN i dX11_says_185 (shM hM sgM_4) (by omega) (by omega) ?_
                      refine j_topi (Z.1 12 i) (mr_arT hS (k := 2) (by omega) (by decide)) ?_
                      refine j_iret dX11_says_186 rfl ?_
                      have hz : saysK Z q k = ((Z.1 12 i), Z) := by
                        clear hQ
                        clear cv hM hS ok
                        have h01 := (okS.th hi).2.2.2
                        have hcl := nI_clamp (show i < 2 ^ 31 by omega)
                        have hin := i_ok hi (show nT Z.1 < 2 ^ 31 by omega)
                        have hone := one_all (q := q) (okS.th hi).1
                        have hsf := sfar_c (c := Z.1 12 i)
                        rw [← hp] at hin hcl
                        grind [saysK, cif, saysI, inZ, humT, lossT, may_1]
                      exact hQ _ _ ⟨by rw [hz], by rw [hz]; exact cv⟩
                    by_cases c79 : q = 1
                    · refine j_tableIn (tgt := 206) dX11_says_136 (by rw [c79]; decide) (by rw [c79]; decide) (off := 70) (by rw [c79]; decide) rfl ?_
                      refine j_aload_n 3 dX11_says_206 rfl ?_
                      refine j_iload_n 2 dX11_says_207 rfl ?_
                      refine j_callV (kc := 0) (ks := 0) (a := 0) (b := 0) (d' := d) (As := [.int (nI i)]) dX11_says_208 kX11_141 rfl (shM hM sgM_0) (by omega) rfl rfl rfl (Nat.le_of_ble_eq_true rfl) (Nat.le_of_ble_eq_true rfl) (T_X11_loss hM hS okS i (by omega)) (kk_p ?_)
                      refine j_iret dX11_says_211 rfl ?_
                      have hz : saysK Z q k = ((lossT Z.1 i), Z) := by
                        clear hQ
                        clear cv hM hS ok
                        have h01 := (okS.th hi).2.2.2
                        have hcl := nI_clamp (show i < 2 ^ 31 by omega)
                        have hin := i_ok hi (show nT Z.1 < 2 ^ 31 by omega)
                        have hone := one_all (q := q) (okS.th hi).1
                        have hsf := sfar_c (c := Z.1 12 i)
                        rw [← hp] at hin hcl
                        grind [saysK, cif, saysI, inZ, humT, lossT, may_1]
                      exact hQ _ _ ⟨by rw [hz], by rw [hz]; exact cv⟩
                    by_cases c80 : q = 2
                    · refine j_tableIn (tgt := 187) dX11_says_136 (by rw [c80]; decide) (by rw [c80]; decide) (off := 51) (by rw [c80]; decide) rfl ?_
                      refine j_aload_n 3 dX11_says_187 rfl ?_
                      refine j_getr (q := 5) dX11_says_188 fX11_38 (shM hM sgM_0) rfl (rfM hM rfM_0_13) ?_
                      refine j_iload_n 2 dX11_says_191 rfl ?_
                      refine j_ialdN i dX11_says_192 (shM hM sgM_5) (by omega) (by omega) ?_
                      refine j_topi (Z.1 13 i) (mr_arT hS (k := 3) (by omega) (by decide)) ?_
                      refine j_iret dX11_says_193 rfl ?_
                      have hz : saysK Z q k = ((Z.1 13 i), Z) := by
                        clear hQ
                        clear cv hM hS ok
                        have h01 := (okS.th hi).2.2.2
                        have hcl := nI_clamp (show i < 2 ^ 31 by omega)
                        have hin := i_ok hi (show nT Z.1 < 2 ^ 31 by omega)
                        have hone := one_all (q := q) (okS.th hi).1
                        have hsf := sfar_c (c := Z.1 12 i)
                        rw [← hp] at hin hcl
                        grind [saysK, cif, saysI, inZ, humT, lossT, may_1]
                      exact hQ _ _ ⟨by rw [hz], by rw [hz]; exact cv⟩
                    by_cases c81 : q = 3
                    · refine j_tableIn (tgt := 206) dX11_says_136 (by rw [c81]; decide) (by rw [c81]; decide) (off := 70) (by rw [c81]; decide) rfl ?_
                      refine j_aload_n 3 dX11_says_206 rfl ?_
                      refine j_iload_n 2 dX11_says_207 rfl ?_
                      refine j_callV (kc := 0) (ks := 0) (a := 0) (b := 0) (d' := d) (As := [.int (nI i)]) dX11_says_208 kX11_141 rfl (shM hM sgM_0) (by omega) rfl rfl rfl (Nat.le_of_ble_eq_true rfl) (Nat.le_of_ble_eq_true rfl) (T_X11_loss hM hS okS i (by omega)) (kk_p ?_)
                      refine j_iret dX11_says_211 rfl ?_
                      have hz : saysK Z q k = ((lossT Z.1 i), Z) := by
                        clear hQ
                        clear cv hM hS ok
                        have h01 := (okS.th hi).2.2.2
                        have hcl := nI_clamp (show i < 2 ^ 31 by omega)
                        have hin := i_ok hi (show nT Z.1 < 2 ^ 31 by omega)
                        have hone := one_all (q := q) (okS.th hi).1
                        have hsf := sfar_c (c := Z.1 12 i)
                        rw [← hp] at hin hcl
                        grind [saysK, cif, saysI, inZ, humT, lossT, may_1]
                      exact hQ _ _ ⟨by rw [hz], by rw [hz]; exact cv⟩
                    by_cases c82 : q = 4
                    · refine j_tableIn (tgt := 194) dX11_says_136 (by rw [c82]; decide) (by rw [c82]; decide) (off := 58) (by rw [c82]; decide) rfl ?_
                      refine j_aload_n 3 dX11_says_194 rfl ?_
                      refine j_iload_n 2 dX11_says_195 rfl ?_
                      refine j_aload_n 3 dX11_says_196 rfl ?_
                      refine j_getr (q := 4) dX11_says_197 fX11_35 (shM hM sgM_0) rfl (rfM hM rfM_0_12) ?_
                      refine j_iload_n 2 dX11_says_200 rfl ?_
                      refine j_ialdN i dX11_says_201 (shM hM sgM_4) (by omega) (by omega) ?_
                      refine j_topi (Z.1 12 i) (mr_arT hS (k := 2) (by omega) (by decide)) ?_
                      refine j_callV (kc := 0) (ks := 0) (a := 0) (b := 0) (d' := (d + 2)) (As := [.int (nI i), .int (Z.1 12 i)]) dX11_says_202 kX11_137 rfl (shM hM sgM_0) (by omega) rfl rfl rfl (Nat.le_of_ble_eq_true rfl) (Nat.le_of_ble_eq_true rfl) (T_X11_hums hM hS okS i (by omega) (Z.1 12 i) (isC_P okS (okS.th hi).2.2.1)) (kk_p ?_)
                      refine j_iret dX11_says_205 rfl ?_
                      have hz : saysK Z q k = ((humT Z.1 i (Z.1 12 i)), Z) := by
                        clear hQ
                        clear cv hM hS ok
                        have h01 := (okS.th hi).2.2.2
                        have hcl := nI_clamp (show i < 2 ^ 31 by omega)
                        have hin := i_ok hi (show nT Z.1 < 2 ^ 31 by omega)
                        have hone := one_all (q := q) (okS.th hi).1
                        have hsf := sfar_c (c := Z.1 12 i)
                        rw [← hp] at hin hcl
                        grind [saysK, cif, saysI, inZ, humT, lossT, may_1]
                      exact hQ _ _ ⟨by rw [hz], by rw [hz]; exact cv⟩
                    by_cases c83 : q = 5
                    · refine j_tableIn (tgt := 206) dX11_says_136 (by rw [c83]; decide) (by rw [c83]; decide) (off := 70) (by rw [c83]; decide) rfl ?_
                      refine j_aload_n 3 dX11_says_206 rfl ?_
                      refine j_iload_n 2 dX11_says_207 rfl ?_
                      refine j_callV (kc := 0) (ks := 0) (a := 0) (b := 0) (d' := d) (As := [.int (nI i)]) dX11_says_208 kX11_141 rfl (shM hM sgM_0) (by omega) rfl rfl rfl (Nat.le_of_ble_eq_true rfl) (Nat.le_of_ble_eq_true rfl) (T_X11_loss hM hS okS i (by omega)) (kk_p ?_)
                      refine j_iret dX11_says_211 rfl ?_
                      have hz : saysK Z q k = ((lossT Z.1 i), Z) := by
                        clear hQ
                        clear cv hM hS ok
                        have h01 := (okS.th hi).2.2.2
                        have hcl := nI_clamp (show i < 2 ^ 31 by omega)
                        have hin := i_ok hi (show nT Z.1 < 2 ^ 31 by omega)
                        have hone := one_all (q := q) (okS.th hi).1
                        have hsf := sfar_c (c := Z.1 12 i)
                        rw [← hp] at hin hcl
                        grind [saysK, cif, saysI, inZ, humT, lossT, may_1]
                      exact hQ _ _ ⟨by rw [hz], by rw [hz]; exact cv⟩
                    by_cases c84 : q = 6
                    · refine j_tableIn (tgt := 194) dX11_says_136 (by rw [c84]; decide) (by rw [c84]; decide) (off := 58) (by rw [c84]; decide) rfl ?_
                      refine j_aload_n 3 dX11_says_194 rfl ?_
                      refine j_iload_n 2 dX11_says_195 rfl ?_
                      refine j_aload_n 3 dX11_says_196 rfl ?_
                      refine j_getr (q := 4) dX11_says_197 fX11_35 (shM hM sgM_0) rfl (rfM hM rfM_0_12) ?_
                      refine j_iload_n 2 dX11_says_200 rfl ?_
                      refine j_ialdN i dX11_says_201 (shM hM sgM_4) (by omega) (by omega) ?_
                      refine j_topi (Z.1 12 i) (mr_arT hS (k := 2) (by omega) (by decide)) ?_
                      refine j_callV (kc := 0) (ks := 0) (a := 0) (b := 0) (d' := (d + 2)) (As := [.int (nI i), .int (Z.1 12 i)]) dX11_says_202 kX11_137 rfl (shM hM sgM_0) (by omega) rfl rfl rfl (Nat.le_of_ble_eq_true rfl) (Nat.le_of_ble_eq_true rfl) (T_X11_hums hM hS okS i (by omega) (Z.1 12 i) (isC_P okS (okS.th hi).2.2.1)) (kk_p ?_)
                      refine j_iret dX11_says_205 rfl ?_
                      have hz : saysK Z q k = ((humT Z.1 i (Z.1 12 i)), Z) := by
                        clear hQ
                        clear cv hM hS ok
                        have h01 := (okS.th hi).2.2.2
                        have hcl := nI_clamp (show i < 2 ^ 31 by omega)
                        have hin := i_ok hi (show nT Z.1 < 2 ^ 31 by omega)
                        have hone := one_all (q := q) (okS.th hi).1
                        have hsf := sfar_c (c := Z.1 12 i)
                        rw [← hp] at hin hcl
                        grind [saysK, cif, saysI, inZ, humT, lossT, may_1]
                      exact hQ _ _ ⟨by rw [hz], by rw [hz]; exact cv⟩
                    refine j_tableOut (tgt := 206) dX11_says_136 (by have q0 := lv_neT c78 (a := 0) (by decide); have q1 := lv_neT c79 (a := 1) (by decide); have q2 := lv_neT c80 (a := 2) (by decide); have q3 := lv_neT c81 (a := 3) (by decide); have q4 := lv_neT c82 (a := 4) (by decide); have q5 := lv_neT c83 (a := 5) (by decide); have q6 := lv_neT c84 (a := 6) (by decide); omega) rfl ?_
                    refine j_aload_n 3 dX11_says_206 rfl ?_
                    refine j_iload_n 2 dX11_says_207 rfl ?_
                    refine j_callV (kc := 0) (ks := 0) (a := 0) (b := 0) (d' := d) (As := [.int (nI i)]) dX11_says_208 kX11_141 rfl (shM hM sgM_0) (by omega) rfl rfl rfl (Nat.le_of_ble_eq_true rfl) (Nat.le_of_ble_eq_true rfl) (T_X11_loss hM hS okS i (by omega)) (kk_p ?_)
                    refine j_iret dX11_says_211 rfl ?_
                    have hz : saysK Z q k = ((lossT Z.1 i), Z) := by
                      clear hQ
                      clear cv hM hS ok
                      have h01 := (okS.th hi).2.2.2
                      have hcl := nI_clamp (show i < 2 ^ 31 by omega)
                      have hin := i_ok hi (show nT Z.1 < 2 ^ 31 by omega)
                      have hone := one_all (q := q) (okS.th hi).1
                      have hsf := sfar_c (c := Z.1 12 i)
                      rw [← hp] at hin hcl
                      grind [saysK, cif, saysI, inZ, humT, lossT, may_1]
                    exact hQ _ _ ⟨by rw [hz], by rw [hz]; exact cv⟩
                  · refine j_iload_n 5 dX11_says_117 rfl ?_
                    refine j_iload 1 dX11_says_118 rfl ?_
                    refine j_icmp_eq (tgt := 135) dX11_says_120 rfl (fun c85 => ?_) (fun c85 => ?_)
                    · refine j_iload_n 5 dX11_says_135 rfl ?_
                      by_cases c87 : q = 0
                      · refine j_tableIn (tgt := 180) dX11_says_136 (by rw [c87]; decide) (by rw [c87]; decide) (off := 44) (by rw [c87]; decide) rfl ?_
                        refine j_aload_n 3 dX11_says_180 rfl ?_
                        refine j_getr (q := 4) dX11_says_181 fX11_35 (shM hM sgM_0) rfl (rfM hM rfM_0_12) ?_
                        refine j_iload_n 2 dX11_says_184 rfl ?_
                        refine j_ialdN i dX11_says_185 (shM hM sgM_4) (by omega) (by omega) ?_
                        refine j_topi (Z.1 12 i) (mr_arT hS (k := 2) (by omega) (by decide)) ?_
                        refine j_iret dX11_says_186 rfl ?_
                        have hz : saysK Z q k = ((Z.1 12 i), Z) := by
                          clear hQ
                          clear cv hM hS ok
                          have h01 := (okS.th hi).2.2.2
                          have hcl := nI_clamp (show i < 2 ^ 31 by omega)
                          have hin := i_ok hi (show nT Z.1 < 2 ^ 31 by omega)
                          have hone := one_all (q := q) (okS.th hi).1
                          have hsf := sfar_c (c := Z.1 12 i)
                          rw [← hp] at hin hcl
                          grind [saysK, cif, saysI, inZ, humT, lossT, may_1]
                        exact hQ _ _ ⟨by rw [hz], by rw [hz]; exact cv⟩
                      by_cases c88 : q = 1
                      · refine j_tableIn (tgt := 206) dX11_says_136 (by rw [c88]; decide) (by rw [c88]; decide) (off := 70) (by rw [c88]; decide) rfl ?_
                        refine j_aload_n 3 dX11_says_206 rfl ?_
                        refine j_iload_n 2 dX11_says_207 rfl ?_
                        refine j_callV (kc := 0) (ks := 0) (a := 0) (b := 0) (d' := d) (As := [.int (nI i)]) dX11_says_208 kX11_141 rfl (shM hM sgM_0) (by omega) rfl rfl rfl (Nat.le_of_ble_eq_true rfl) (Nat.le_of_ble_eq_true rfl) (T_X11_loss hM hS okS i (by omega)) (kk_p ?_)
                        refine j_iret dX11_says_211 rfl ?_
                        have hz : saysK Z q k = ((lossT Z.1 i), Z) := by
                          clear hQ
                          clear cv hM hS ok
                          have h01 := (okS.th hi).2.2.2
                          have hcl := nI_clamp (show i < 2 ^ 31 by omega)
                          have hin := i_ok hi (show nT Z.1 < 2 ^ 31 by omega)
                          have hone := one_all (q := q) (okS.th hi).1
                          have hsf := sfar_c (c := Z.1 12 i)
                          rw [← hp] at hin hcl
                          grind [saysK, cif, saysI, inZ, humT, lossT, may_1]
                        exact hQ _ _ ⟨by rw [hz], by rw [hz]; exact cv⟩
                      by_cases c89 : q = 2
                      · refine j_tableIn (tgt := 187) dX11_says_136 (by rw [c89]; decide) (by rw [c89]; decide) (off := 51) (by rw [c89]; decide) rfl ?_
                        refine j_aload_n 3 dX11_says_187 rfl ?_
                        refine j_getr (q := 5) dX11_says_188 fX11_38 (shM hM sgM_0) rfl (rfM hM rfM_0_13) ?_
                        refine j_iload_n 2 dX11_says_191 rfl ?_
                        refine j_ialdN i dX11_says_192 (shM hM sgM_5) (by omega) (by omega) ?_
                        refine j_topi (Z.1 13 i) (mr_arT hS (k := 3) (by omega) (by decide)) ?_
                        refine j_iret dX11_says_193 rfl ?_
                        have hz : saysK Z q k = ((Z.1 13 i), Z) := by
                          clear hQ
                          clear cv hM hS ok
                          have h01 := (okS.th hi).2.2.2
                          have hcl := nI_clamp (show i < 2 ^ 31 by omega)
                          have hin := i_ok hi (show nT Z.1 < 2 ^ 31 by omega)
                          have hone := one_all (q := q) (okS.th hi).1
                          have hsf := sfar_c (c := Z.1 12 i)
                          rw [← hp] at hin hcl
                          grind [saysK, cif, saysI, inZ, humT, lossT, may_1]
                        exact hQ _ _ ⟨by rw [hz], by rw [hz]; exact cv⟩
                      by_cases c90 : q = 3
                      · refine j_tableIn (tgt := 206) dX11_says_136 (by rw [c90]; decide) (by rw [c90]; decide) (off := 70) (by rw [c90]; decide) rfl ?_
                        refine j_aload_n 3 dX11_says_206 rfl ?_
                        refine j_iload_n 2 dX11_says_207 rfl ?_
                        refine j_callV (kc := 0) (ks := 0) (a := 0) (b := 0) (d' := d) (As := [.int (nI i)]) dX11_says_208 kX11_141 rfl (shM hM sgM_0) (by omega) rfl rfl rfl (Nat.le_of_ble_eq_true rfl) (Nat.le_of_ble_eq_true rfl) (T_X11_loss hM hS okS i (by omega)) (kk_p ?_)
                        refine j_iret dX11_says_211 rfl ?_
                        have hz : saysK Z q k = ((lossT Z.1 i), Z) := by
                          clear hQ
                          clear cv hM hS ok
                          have h01 := (okS.th hi).2.2.2
                          have hcl := nI_clamp (show i < 2 ^ 31 by omega)
                          have hin := i_ok hi (show nT Z.1 < 2 ^ 31 by omega)
                          have hone := one_all (q := q) (okS.th hi).1
                          have hsf := sfar_c (c := Z.1 12 i)
                          rw [← hp] at hin hcl
                          grind [saysK, cif, saysI, inZ, humT, lossT, may_1]
                        exact hQ _ _ ⟨by rw [hz], by rw [hz]; exact cv⟩
                      by_cases c91 : q = 4
                      · refine j_tableIn (tgt := 194) dX11_says_136 (by rw [c91]; decide) (by rw [c91]; decide) (off := 58) (by rw [c91]; decide) rfl ?_
                        refine j_aload_n 3 dX11_says_194 rfl ?_
                        refine j_iload_n 2 dX11_says_195 rfl ?_
                        refine j_aload_n 3 dX11_says_196 rfl ?_
                        refine j_getr (q := 4) dX11_says_197 fX11_35 (shM hM sgM_0) rfl (rfM hM rfM_0_12) ?_
                        refine j_iload_n 2 dX11_says_200 rfl ?_
                        refine j_ialdN i dX11_says_201 (shM hM sgM_4) (by omega) (by omega) ?_
                        refine j_topi (Z.1 12 i) (mr_arT hS (k := 2) (by omega) (by decide)) ?_
                        refine j_callV (kc := 0) (ks := 0) (a := 0) (b := 0) (d' := (d + 2)) (As := [.int (nI i), .int (Z.1 12 i)]) dX11_says_202 kX11_137 rfl (shM hM sgM_0) (by omega) rfl rfl rfl (Nat.le_of_ble_eq_true rfl) (Nat.le_of_ble_eq_true rfl) (T_X11_hums hM hS okS i (by omega) (Z.1 12 i) (isC_P okS (okS.th hi).2.2.1)) (kk_p ?_)
                        refine j_iret dX11_says_205 rfl ?_
                        have hz : saysK Z q k = ((humT Z.1 i (Z.1 12 i)), Z) := by
                          clear hQ
                          clear cv hM hS ok
                          have h01 := (okS.th hi).2.2.2
                          have hcl := nI_clamp (show i < 2 ^ 31 by omega)
                          have hin := i_ok hi (show nT Z.1 < 2 ^ 31 by omega)
                          have hone := one_all (q := q) (okS.th hi).1
                          have hsf := sfar_c (c := Z.1 12 i)
                          rw [← hp] at hin hcl
                          grind [saysK, cif, saysI, inZ, humT, lossT, may_1]
                        exact hQ _ _ ⟨by rw [hz], by rw [hz]; exact cv⟩
                      by_cases c92 : q = 5
                      · refine j_tableIn (tgt := 206) dX11_says_136 (by rw [c92]; decide) (by rw [c92]; decide) (off := 70) (by rw [c92]; decide) rfl ?_
                        refine j_aload_n 3 dX11_says_206 rfl ?_
                        refine j_iload_n 2 dX11_says_207 rfl ?_
                        refine j_callV (kc := 0) (ks := 0) (a := 0) (b := 0) (d' := d) (As := [.int (nI i)]) dX11_says_208 kX11_141 rfl (shM hM sgM_0) (by omega) rfl rfl rfl (Nat.le_of_ble_eq_true rfl) (Nat.le_of_ble_eq_true rfl) (T_X11_loss hM hS okS i (by omega)) (kk_p ?_)
                        refine j_iret dX11_says_211 rfl ?_
                        have hz : saysK Z q k = ((lossT Z.1 i), Z) := by
                          clear hQ
                          clear cv hM hS ok
                          have h01 := (okS.th hi).2.2.2
                          have hcl := nI_clamp (show i < 2 ^ 31 by omega)
                          have hin := i_ok hi (show nT Z.1 < 2 ^ 31 by omega)
                          have hone := one_all (q := q) (okS.th hi).1
                          have hsf := sfar_c (c := Z.1 12 i)
                          rw [← hp] at hin hcl
                          grind [saysK, cif, saysI, inZ, humT, lossT, may_1]
                        exact hQ _ _ ⟨by rw [hz], by rw [hz]; exact cv⟩
                      by_cases c93 : q = 6
                      · refine j_tableIn (tgt := 194) dX11_says_136 (by rw [c93]; decide) (by rw [c93]; decide) (off := 58) (by rw [c93]; decide) rfl ?_
                        refine j_aload_n 3 dX11_says_194 rfl ?_
                        refine j_iload_n 2 dX11_says_195 rfl ?_
                        refine j_aload_n 3 dX11_says_196 rfl ?_
                        refine j_getr (q := 4) dX11_says_197 fX11_35 (shM hM sgM_0) rfl (rfM hM rfM_0_12) ?_
                        refine j_iload_n 2 dX11_says_200 rfl ?_
                        refine j_ialdN i dX11_says_201 (shM hM sgM_4) (by omega) (by omega) ?_
                        refine j_topi (Z.1 12 i) (mr_arT hS (k := 2) (by omega) (by decide)) ?_
                        refine j_callV (kc := 0) (ks := 0) (a := 0) (b := 0) (d' := (d + 2)) (As := [.int (nI i), .int (Z.1 12 i)]) dX11_says_202 kX11_137 rfl (shM hM sgM_0) (by omega) rfl rfl rfl (Nat.le_of_ble_eq_true rfl) (Nat.le_of_ble_eq_true rfl) (T_X11_hums hM hS okS i (by omega) (Z.1 12 i) (isC_P okS (okS.th hi).2.2.1)) (kk_p ?_)
                        refine j_iret dX11_says_205 rfl ?_
                        have hz : saysK Z q k = ((humT Z.1 i (Z.1 12 i)), Z) := by
                          clear hQ
                          clear cv hM hS ok
                          have h01 := (okS.th hi).2.2.2
                          have hcl := nI_clamp (show i < 2 ^ 31 by omega)
                          have hin := i_ok hi (show nT Z.1 < 2 ^ 31 by omega)
                          have hone := one_all (q := q) (okS.th hi).1
                          have hsf := sfar_c (c := Z.1 12 i)
                          rw [← hp] at hin hcl
                          grind [saysK, cif, saysI, inZ, humT, lossT, may_1]
                        exact hQ _ _ ⟨by rw [hz], by rw [hz]; exact cv⟩
                      refine j_tableOut (tgt := 206) dX11_says_136 (by have q0 := lv_neT c87 (a := 0) (by decide); have q1 := lv_neT c88 (a := 1) (by decide); have q2 := lv_neT c89 (a := 2) (by decide); have q3 := lv_neT c90 (a := 3) (by decide); have q4 := lv_neT c91 (a := 4) (by decide); have q5 := lv_neT c92 (a := 5) (by decide); have q6 := lv_neT c93 (a := 6) (by decide); omega) rfl ?_
                      refine j_aload_n 3 dX11_says_206 rfl ?_
                      refine j_iload_n 2 dX11_says_207 rfl ?_
                      refine j_callV (kc := 0) (ks := 0) (a := 0) (b := 0) (d' := d) (As := [.int (nI i)]) dX11_says_208 kX11_141 rfl (shM hM sgM_0) (by omega) rfl rfl rfl (Nat.le_of_ble_eq_true rfl) (Nat.le_of_ble_eq_true rfl) (T_X11_loss hM hS okS i (by omega)) (kk_p ?_)
                      refine j_iret dX11_says_211 rfl ?_
                      have hz : saysK Z q k = ((lossT Z.1 i), Z) := by
                        clear hQ
                        clear cv hM hS ok
                        have h01 := (okS.th hi).2.2.2
                        have hcl := nI_clamp (show i < 2 ^ 31 by omega)
                        have hin := i_ok hi (show nT Z.1 < 2 ^ 31 by omega)
                        have hone := one_all (q := q) (okS.th hi).1
                        have hsf := sfar_c (c := Z.1 12 i)
                        rw [← hp] at hin hcl
                        grind [saysK, cif, saysI, inZ, humT, lossT, may_1]
                      exact hQ _ _ ⟨by rw [hz], by rw [hz]; exact cv⟩
                    · refine j_iload 0 dX11_says_123 rfl ?_
                      refine j_if_ne (tgt := 135) dX11_says_125 rfl (fun c94 => ?_) (fun c94 => ?_)
                      · refine j_iload_n 5 dX11_says_135 rfl ?_
                        by_cases c96 : q = 0
                        · refine j_tableIn (tgt := 180) dX11_says_136 (by rw [c96]; decide) (by rw [c96]; decide) (off := 44) (by rw [c96]; decide) rfl ?_
                          refine j_aload_n 3 dX11_says_180 rfl ?_
                          refine j_getr (q := 4) dX11_says_181 fX11_35 (shM hM sgM_0) rfl (rfM hM rfM_0_12) ?_
                          refine j_iload_n 2 dX11_says_184 rfl ?_
                          refine j_ialdN i dX11_says_185 (shM hM sgM_4) (by omega) (by omega) ?_
                          refine j_topi (Z.1 12 i) (mr_arT hS (k := 2) (by omega) (by decide)) ?_
                          refine j_iret dX11_says_186 rfl ?_
                          have hz : saysK Z q k = ((Z.1 12 i), Z) := by
                            clear hQ
                            clear cv hM hS ok
                            have h01 := (okS.th hi).2.2.2
                            have hcl := nI_clamp (show i < 2 ^ 31 by omega)
                            have hin := i_ok hi (show nT Z.1 < 2 ^ 31 by omega)
                            have hone := one_all (q := q) (okS.th hi).1
                            have hsf := sfar_c (c := Z.1 12 i)
                            rw [← hp] at hin hcl
                            grind [saysK, cif, saysI, inZ, humT, lossT, may_1]
                          exact hQ _ _ ⟨by rw [hz], by rw [hz]; exact cv⟩
                        by_cases c97 : q = 1
                        · refine j_tableIn (tgt := 206) dX11_says_136 (by rw [c97]; decide) (by rw [c97]; decide) (off := 70) (by rw [c97]; decide) rfl ?_
                          refine j_aload_n 3 dX11_says_206 rfl ?_
                          refine j_iload_n 2 dX11_says_207 rfl ?_
                          refine j_callV (kc := 0) (ks := 0) (a := 0) (b := 0) (d' := d) (As := [.int (nI i)]) dX11_says_208 kX11_141 rfl (shM hM sgM_0) (by omega) rfl rfl rfl (Nat.le_of_ble_eq_true rfl) (Nat.le_of_ble_eq_true rfl) (T_X11_loss hM hS okS i (by omega)) (kk_p ?_)
                          refine j_iret dX11_says_211 rfl ?_
                          have hz : saysK Z q k = ((lossT Z.1 i), Z) := by
                            clear hQ
                            clear cv hM hS ok
                            have h01 := (okS.th hi).2.2.2
                            have hcl := nI_clamp (show i < 2 ^ 31 by omega)
                            have hin := i_ok hi (show nT Z.1 < 2 ^ 31 by omega)
                            have hone := one_all (q := q) (okS.th hi).1
                            have hsf := sfar_c (c := Z.1 12 i)
                            rw [← hp] at hin hcl
                            grind [saysK, cif, saysI, inZ, humT, lossT, may_1]
                          exact hQ _ _ ⟨by rw [hz], by rw [hz]; exact cv⟩
                        by_cases c98 : q = 2
                        · refine j_tableIn (tgt := 187) dX11_says_136 (by rw [c98]; decide) (by rw [c98]; decide) (off := 51) (by rw [c98]; decide) rfl ?_
                          refine j_aload_n 3 dX11_says_187 rfl ?_
                          refine j_getr (q := 5) dX11_says_188 fX11_38 (shM hM sgM_0) rfl (rfM hM rfM_0_13) ?_
                          refine j_iload_n 2 dX11_says_191 rfl ?_
                          refine j_ialdN i dX11_says_192 (shM hM sgM_5) (by omega) (by omega) ?_
                          refine j_topi (Z.1 13 i) (mr_arT hS (k := 3) (by omega) (by decide)) ?_
                          refine j_iret dX11_says_193 rfl ?_
                          have hz : saysK Z q k = ((Z.1 13 i), Z) := by
                            clear hQ
                            clear cv hM hS ok
                            have h01 := (okS.th hi).2.2.2
                            have hcl := nI_clamp (show i < 2 ^ 31 by omega)
                            have hin := i_ok hi (show nT Z.1 < 2 ^ 31 by omega)
                            have hone := one_all (q := q) (okS.th hi).1
                            have hsf := sfar_c (c := Z.1 12 i)
                            rw [← hp] at hin hcl
                            grind [saysK, cif, saysI, inZ, humT, lossT, may_1]
                          exact hQ _ _ ⟨by rw [hz], by rw [hz]; exact cv⟩
                        by_cases c99 : q = 3
                        · refine j_tableIn (tgt := 206) dX11_says_136 (by rw [c99]; decide) (by rw [c99]; decide) (off := 70) (by rw [c99]; decide) rfl ?_
                          refine j_aload_n 3 dX11_says_206 rfl ?_
                          refine j_iload_n 2 dX11_says_207 rfl ?_
                          refine j_callV (kc := 0) (ks := 0) (a := 0) (b := 0) (d' := d) (As := [.int (nI i)]) dX11_says_208 kX11_141 rfl (shM hM sgM_0) (by omega) rfl rfl rfl (Nat.le_of_ble_eq_true rfl) (Nat.le_of_ble_eq_true rfl) (T_X11_loss hM hS okS i (by omega)) (kk_p ?_)
                          refine j_iret dX11_says_211 rfl ?_
                          have hz : saysK Z q k = ((lossT Z.1 i), Z) := by
                            clear hQ
                            clear cv hM hS ok
                            have h01 := (okS.th hi).2.2.2
                            have hcl := nI_clamp (show i < 2 ^ 31 by omega)
                            have hin := i_ok hi (show nT Z.1 < 2 ^ 31 by omega)
                            have hone := one_all (q := q) (okS.th hi).1
                            have hsf := sfar_c (c := Z.1 12 i)
                            rw [← hp] at hin hcl
                            grind [saysK, cif, saysI, inZ, humT, lossT, may_1]
                          exact hQ _ _ ⟨by rw [hz], by rw [hz]; exact cv⟩
                        by_cases c100 : q = 4
                        · refine j_tableIn (tgt := 194) dX11_says_136 (by rw [c100]; decide) (by rw [c100]; decide) (off := 58) (by rw [c100]; decide) rfl ?_
                          refine j_aload_n 3 dX11_says_194 rfl ?_
                          refine j_iload_n 2 dX11_says_195 rfl ?_
                          refine j_aload_n 3 dX11_says_196 rfl ?_
                          refine j_getr (q := 4) dX11_says_197 fX11_35 (shM hM sgM_0) rfl (rfM hM rfM_0_12) ?_
                          refine j_iload_n 2 dX11_says_200 rfl ?_
                          refine j_ialdN i dX11_says_201 (shM hM sgM_4) (by omega) (by omega) ?_
                          refine j_topi (Z.1 12 i) (mr_arT hS (k := 2) (by omega) (by decide)) ?_
                          refine j_callV (kc := 0) (ks := 0) (a := 0) (b := 0) (d' := (d + 2)) (As := [.int (nI i), .int (Z.1 12 i)]) dX11_says_202 kX11_137 rfl (shM hM sgM_0) (by omega) rfl rfl rfl (Nat.le_of_ble_eq_true rfl) (Nat.le_of_ble_eq_true rfl) (T_X11_hums hM hS okS i (by omega) (Z.1 12 i) (isC_P okS (okS.th hi).2.2.1)) (kk_p ?_)
                          refine j_iret dX11_says_205 rfl ?_
                          have hz : saysK Z q k = ((humT Z.1 i (Z.1 12 i)), Z) := by
                            clear hQ
                            clear cv hM hS ok
                            have h01 := (okS.th hi).2.2.2
                            have hcl := nI_clamp (show i < 2 ^ 31 by omega)
                            have hin := i_ok hi (show nT Z.1 < 2 ^ 31 by omega)
                            have hone := one_all (q := q) (okS.th hi).1
                            have hsf := sfar_c (c := Z.1 12 i)
                            rw [← hp] at hin hcl
                            grind [saysK, cif, saysI, inZ, humT, lossT, may_1]
                          exact hQ _ _ ⟨by rw [hz], by rw [hz]; exact cv⟩
                        by_cases c101 : q = 5
                        · refine j_tableIn (tgt := 206) dX11_says_136 (by rw [c101]; decide) (by rw [c101]; decide) (off := 70) (by rw [c101]; decide) rfl ?_
                          refine j_aload_n 3 dX11_says_206 rfl ?_
                          refine j_iload_n 2 dX11_says_207 rfl ?_
                          refine j_callV (kc := 0) (ks := 0) (a := 0) (b := 0) (d' := d) (As := [.int (nI i)]) dX11_says_208 kX11_141 rfl (shM hM sgM_0) (by omega) rfl rfl rfl (Nat.le_of_ble_eq_true rfl) (Nat.le_of_ble_eq_true rfl) (T_X11_loss hM hS okS i (by omega)) (kk_p ?_)
                          refine j_iret dX11_says_211 rfl ?_
                          have hz : saysK Z q k = ((lossT Z.1 i), Z) := by
                            clear hQ
                            clear cv hM hS ok
                            have h01 := (okS.th hi).2.2.2
                            have hcl := nI_clamp (show i < 2 ^ 31 by omega)
                            have hin := i_ok hi (show nT Z.1 < 2 ^ 31 by omega)
                            have hone := one_all (q := q) (okS.th hi).1
                            have hsf := sfar_c (c := Z.1 12 i)
                            rw [← hp] at hin hcl
                            grind [saysK, cif, saysI, inZ, humT, lossT, may_1]
                          exact hQ _ _ ⟨by rw [hz], by rw [hz]; exact cv⟩
                        by_cases c102 : q = 6
                        · refine j_tableIn (tgt := 194) dX11_says_136 (by rw [c102]; decide) (by rw [c102]; decide) (off := 58) (by rw [c102]; decide) rfl ?_
                          refine j_aload_n 3 dX11_says_194 rfl ?_
                          refine j_iload_n 2 dX11_says_195 rfl ?_
                          refine j_aload_n 3 dX11_says_196 rfl ?_
                          refine j_getr (q := 4) dX11_says_197 fX11_35 (shM hM sgM_0) rfl (rfM hM rfM_0_12) ?_
                          refine j_iload_n 2 dX11_says_200 rfl ?_
                          refine j_ialdN i dX11_says_201 (shM hM sgM_4) (by omega) (by omega) ?_
                          refine j_topi (Z.1 12 i) (mr_arT hS (k := 2) (by omega) (by decide)) ?_
                          refine j_callV (kc := 0) (ks := 0) (a := 0) (b := 0) (d' := (d + 2)) (As := [.int (nI i), .int (Z.1 12 i)]) dX11_says_202 kX11_137 rfl (shM hM sgM_0) (by omega) rfl rfl rfl (Nat.le_of_ble_eq_true rfl) (Nat.le_of_ble_eq_true rfl) (T_X11_hums hM hS okS i (by omega) (Z.1 12 i) (isC_P okS (okS.th hi).2.2.1)) (kk_p ?_)
                          refine j_iret dX11_says_205 rfl ?_
                          have hz : saysK Z q k = ((humT Z.1 i (Z.1 12 i)), Z) := by
                            clear hQ
                            clear cv hM hS ok
                            have h01 := (okS.th hi).2.2.2
                            have hcl := nI_clamp (show i < 2 ^ 31 by omega)
                            have hin := i_ok hi (show nT Z.1 < 2 ^ 31 by omega)
                            have hone := one_all (q := q) (okS.th hi).1
                            have hsf := sfar_c (c := Z.1 12 i)
                            rw [← hp] at hin hcl
                            grind [saysK, cif, saysI, inZ, humT, lossT, may_1]
                          exact hQ _ _ ⟨by rw [hz], by rw [hz]; exact cv⟩
                        refine j_tableOut (tgt := 206) dX11_says_136 (by have q0 := lv_neT c96 (a := 0) (by decide); have q1 := lv_neT c97 (a := 1) (by decide); have q2 := lv_neT c98 (a := 2) (by decide); have q3 := lv_neT c99 (a := 3) (by decide); have q4 := lv_neT c100 (a := 4) (by decide); have q5 := lv_neT c101 (a := 5) (by decide); have q6 := lv_neT c102 (a := 6) (by decide); omega) rfl ?_
                        refine j_aload_n 3 dX11_says_206 rfl ?_
                        refine j_iload_n 2 dX11_says_207 rfl ?_
                        refine j_callV (kc := 0) (ks := 0) (a := 0) (b := 0) (d' := d) (As := [.int (nI i)]) dX11_says_208 kX11_141 rfl (shM hM sgM_0) (by omega) rfl rfl rfl (Nat.le_of_ble_eq_true rfl) (Nat.le_of_ble_eq_true rfl) (T_X11_loss hM hS okS i (by omega)) (kk_p ?_)
                        refine j_iret dX11_says_211 rfl ?_
                        have hz : saysK Z q k = ((lossT Z.1 i), Z) := by
                          clear hQ
                          clear cv hM hS ok
                          have h01 := (okS.th hi).2.2.2
                          have hcl := nI_clamp (show i < 2 ^ 31 by omega)
                          have hin := i_ok hi (show nT Z.1 < 2 ^ 31 by omega)
                          have hone := one_all (q := q) (okS.th hi).1
                          have hsf := sfar_c (c := Z.1 12 i)
                          rw [← hp] at hin hcl
                          grind [saysK, cif, saysI, inZ, humT, lossT, may_1]
                        exact hQ _ _ ⟨by rw [hz], by rw [hz]; exact cv⟩
                      · exact absurd c94 (by decide)
                · refine j_iload_n 4 dX11_says_94 rfl ?_
                  refine j_iconst 4 dX11_says_95 ic_4 ?_
                  refine j_icmp_ne (tgt := 110) dX11_says_96 rfl (fun c103 => ?_) (fun c103 => ?_)
                  · refine j_iconst 0 dX11_says_110 ic_0 ?_
                    refine j_istore (L' := [(5, .int 0), (4, .int (Z.1 10 i)), (3, .int (nI i)), (0, .ref 0), (1, .int (nI k)), (2, .int q)]) dX11_says_111 (by decide) rfl ?_
                    refine j_iload_n 5 dX11_says_113 rfl ?_
                    refine j_if_eq (tgt := 135) dX11_says_114 rfl (fun c104 => ?_) (fun c104 => ?_)
                    · refine j_iload_n 5 dX11_says_135 rfl ?_
                      by_cases c106 : q = 0
                      · refine j_tableIn (tgt := 180) dX11_says_136 (by rw [c106]; decide) (by rw [c106]; decide) (off := 44) (by rw [c106]; decide) rfl ?_
                        refine j_aload_n 3 dX11_says_180 rfl ?_
                        refine j_getr (q := 4) dX11_says_181 fX11_35 (shM hM sgM_0) rfl (rfM hM rfM_0_12) ?_
                        refine j_iload_n 2 dX11_says_184 rfl ?_
                        refine j_ialdN i dX11_says_185 (shM hM sgM_4) (by omega) (by omega) ?_
                        refine j_topi (Z.1 12 i) (mr_arT hS (k := 2) (by omega) (by decide)) ?_
                        refine j_iret dX11_says_186 rfl ?_
                        have hz : saysK Z q k = ((Z.1 12 i), Z) := by
                          clear hQ
                          clear cv hM hS ok
                          have h01 := (okS.th hi).2.2.2
                          have hcl := nI_clamp (show i < 2 ^ 31 by omega)
                          have hin := i_ok hi (show nT Z.1 < 2 ^ 31 by omega)
                          have hone := one_all (q := q) (okS.th hi).1
                          have hsf := sfar_c (c := Z.1 12 i)
                          rw [← hp] at hin hcl
                          grind [saysK, cif, saysI, inZ, humT, lossT, may_1]
                        exact hQ _ _ ⟨by rw [hz], by rw [hz]; exact cv⟩
                      by_cases c107 : q = 1
                      · refine j_tableIn (tgt := 206) dX11_says_136 (by rw [c107]; decide) (by rw [c107]; decide) (off := 70) (by rw [c107]; decide) rfl ?_
                        refine j_aload_n 3 dX11_says_206 rfl ?_
                        refine j_iload_n 2 dX11_says_207 rfl ?_
                        refine j_callV (kc := 0) (ks := 0) (a := 0) (b := 0) (d' := d) (As := [.int (nI i)]) dX11_says_208 kX11_141 rfl (shM hM sgM_0) (by omega) rfl rfl rfl (Nat.le_of_ble_eq_true rfl) (Nat.le_of_ble_eq_true rfl) (T_X11_loss hM hS okS i (by omega)) (kk_p ?_)
                        refine j_iret dX11_says_211 rfl ?_
                        have hz : saysK Z q k = ((lossT Z.1 i), Z) := by
                          clear hQ
                          clear cv hM hS ok
                          have h01 := (okS.th hi).2.2.2
                          have hcl := nI_clamp (show i < 2 ^ 31 by omega)
                          have hin := i_ok hi (show nT Z.1 < 2 ^ 31 by omega)
                          have hone := one_all (q := q) (okS.th hi).1
                          have hsf := sfar_c (c := Z.1 12 i)
                          rw [← hp] at hin hcl
                          grind [saysK, cif, saysI, inZ, humT, lossT, may_1]
                        exact hQ _ _ ⟨by rw [hz], by rw [hz]; exact cv⟩
                      by_cases c108 : q = 2
                      · refine j_tableIn (tgt := 187) dX11_says_136 (by rw [c108]; decide) (by rw [c108]; decide) (off := 51) (by rw [c108]; decide) rfl ?_
                        refine j_aload_n 3 dX11_says_187 rfl ?_
                        refine j_getr (q := 5) dX11_says_188 fX11_38 (shM hM sgM_0) rfl (rfM hM rfM_0_13) ?_
                        refine j_iload_n 2 dX11_says_191 rfl ?_
                        refine j_ialdN i dX11_says_192 (shM hM sgM_5) (by omega) (by omega) ?_
                        refine j_topi (Z.1 13 i) (mr_arT hS (k := 3) (by omega) (by decide)) ?_
                        refine j_iret dX11_says_193 rfl ?_
                        have hz : saysK Z q k = ((Z.1 13 i), Z) := by
                          clear hQ
                          clear cv hM hS ok
                          have h01 := (okS.th hi).2.2.2
                          have hcl := nI_clamp (show i < 2 ^ 31 by omega)
                          have hin := i_ok hi (show nT Z.1 < 2 ^ 31 by omega)
                          have hone := one_all (q := q) (okS.th hi).1
                          have hsf := sfar_c (c := Z.1 12 i)
                          rw [← hp] at hin hcl
                          grind [saysK, cif, saysI, inZ, humT, lossT, may_1]
                        exact hQ _ _ ⟨by rw [hz], by rw [hz]; exact cv⟩
                      by_cases c109 : q = 3
                      · refine j_tableIn (tgt := 206) dX11_says_136 (by rw [c109]; decide) (by rw [c109]; decide) (off := 70) (by rw [c109]; decide) rfl ?_
                        refine j_aload_n 3 dX11_says_206 rfl ?_
                        refine j_iload_n 2 dX11_says_207 rfl ?_
                        refine j_callV (kc := 0) (ks := 0) (a := 0) (b := 0) (d' := d) (As := [.int (nI i)]) dX11_says_208 kX11_141 rfl (shM hM sgM_0) (by omega) rfl rfl rfl (Nat.le_of_ble_eq_true rfl) (Nat.le_of_ble_eq_true rfl) (T_X11_loss hM hS okS i (by omega)) (kk_p ?_)
                        refine j_iret dX11_says_211 rfl ?_
                        have hz : saysK Z q k = ((lossT Z.1 i), Z) := by
                          clear hQ
                          clear cv hM hS ok
                          have h01 := (okS.th hi).2.2.2
                          have hcl := nI_clamp (show i < 2 ^ 31 by omega)
                          have hin := i_ok hi (show nT Z.1 < 2 ^ 31 by omega)
                          have hone := one_all (q := q) (okS.th hi).1
                          have hsf := sfar_c (c := Z.1 12 i)
                          rw [← hp] at hin hcl
                          grind [saysK, cif, saysI, inZ, humT, lossT, may_1]
                        exact hQ _ _ ⟨by rw [hz], by rw [hz]; exact cv⟩
                      by_cases c110 : q = 4
                      · refine j_tableIn (tgt := 194) dX11_says_136 (by rw [c110]; decide) (by rw [c110]; decide) (off := 58) (by rw [c110]; decide) rfl ?_
                        refine j_aload_n 3 dX11_says_194 rfl ?_
                        refine j_iload_n 2 dX11_says_195 rfl ?_
                        refine j_aload_n 3 dX11_says_196 rfl ?_
                        refine j_getr (q := 4) dX11_says_197 fX11_35 (shM hM sgM_0) rfl (rfM hM rfM_0_12) ?_
                        refine j_iload_n 2 dX11_says_200 rfl ?_
                        refine j_ialdN i dX11_says_201 (shM hM sgM_4) (by omega) (by omega) ?_
                        refine j_topi (Z.1 12 i) (mr_arT hS (k := 2) (by omega) (by decide)) ?_
                        refine j_callV (kc := 0) (ks := 0) (a := 0) (b := 0) (d' := (d + 2)) (As := [.int (nI i), .int (Z.1 12 i)]) dX11_says_202 kX11_137 rfl (shM hM sgM_0) (by omega) rfl rfl rfl (Nat.le_of_ble_eq_true rfl) (Nat.le_of_ble_eq_true rfl) (T_X11_hums hM hS okS i (by omega) (Z.1 12 i) (isC_P okS (okS.th hi).2.2.1)) (kk_p ?_)
                        refine j_iret dX11_says_205 rfl ?_
                        have hz : saysK Z q k = ((humT Z.1 i (Z.1 12 i)), Z) := by
                          clear hQ
                          clear cv hM hS ok
                          have h01 := (okS.th hi).2.2.2
                          have hcl := nI_clamp (show i < 2 ^ 31 by omega)
                          have hin := i_ok hi (show nT Z.1 < 2 ^ 31 by omega)
                          have hone := one_all (q := q) (okS.th hi).1
                          have hsf := sfar_c (c := Z.1 12 i)
                          rw [← hp] at hin hcl
                          grind [saysK, cif, saysI, inZ, humT, lossT, may_1]
                        exact hQ _ _ ⟨by rw [hz], by rw [hz]; exact cv⟩
                      by_cases c111 : q = 5
                      · refine j_tableIn (tgt := 206) dX11_says_136 (by rw [c111]; decide) (by rw [c111]; decide) (off := 70) (by rw [c111]; decide) rfl ?_
                        refine j_aload_n 3 dX11_says_206 rfl ?_
                        refine j_iload_n 2 dX11_says_207 rfl ?_
                        refine j_callV (kc := 0) (ks := 0) (a := 0) (b := 0) (d' := d) (As := [.int (nI i)]) dX11_says_208 kX11_141 rfl (shM hM sgM_0) (by omega) rfl rfl rfl (Nat.le_of_ble_eq_true rfl) (Nat.le_of_ble_eq_true rfl) (T_X11_loss hM hS okS i (by omega)) (kk_p ?_)
                        refine j_iret dX11_says_211 rfl ?_
                        have hz : saysK Z q k = ((lossT Z.1 i), Z) := by
                          clear hQ
                          clear cv hM hS ok
                          have h01 := (okS.th hi).2.2.2
                          have hcl := nI_clamp (show i < 2 ^ 31 by omega)
                          have hin := i_ok hi (show nT Z.1 < 2 ^ 31 by omega)
                          have hone := one_all (q := q) (okS.th hi).1
                          have hsf := sfar_c (c := Z.1 12 i)
                          rw [← hp] at hin hcl
                          grind [saysK, cif, saysI, inZ, humT, lossT, may_1]
                        exact hQ _ _ ⟨by rw [hz], by rw [hz]; exact cv⟩
                      by_cases c112 : q = 6
                      · refine j_tableIn (tgt := 194) dX11_says_136 (by rw [c112]; decide) (by rw [c112]; decide) (off := 58) (by rw [c112]; decide) rfl ?_
                        refine j_aload_n 3 dX11_says_194 rfl ?_
                        refine j_iload_n 2 dX11_says_195 rfl ?_
                        refine j_aload_n 3 dX11_says_196 rfl ?_
                        refine j_getr (q := 4) dX11_says_197 fX11_35 (shM hM sgM_0) rfl (rfM hM rfM_0_12) ?_
                        refine j_iload_n 2 dX11_says_200 rfl ?_
                        refine j_ialdN i dX11_says_201 (shM hM sgM_4) (by omega) (by omega) ?_
                        refine j_topi (Z.1 12 i) (mr_arT hS (k := 2) (by omega) (by decide)) ?_
                        refine j_callV (kc := 0) (ks := 0) (a := 0) (b := 0) (d' := (d + 2)) (As := [.int (nI i), .int (Z.1 12 i)]) dX11_says_202 kX11_137 rfl (shM hM sgM_0) (by omega) rfl rfl rfl (Nat.le_of_ble_eq_true rfl) (Nat.le_of_ble_eq_true rfl) (T_X11_hums hM hS okS i (by omega) (Z.1 12 i) (isC_P okS (okS.th hi).2.2.1)) (kk_p ?_)
                        refine j_iret dX11_says_205 rfl ?_
                        have hz : saysK Z q k = ((humT Z.1 i (Z.1 12 i)), Z) := by
                          clear hQ
                          clear cv hM hS ok
                          have h01 := (okS.th hi).2.2.2
                          have hcl := nI_clamp (show i < 2 ^ 31 by omega)
                          have hin := i_ok hi (show nT Z.1 < 2 ^ 31 by omega)
                          have hone := one_all (q := q) (okS.th hi).1
                          have hsf := sfar_c (c := Z.1 12 i)
                          rw [← hp] at hin hcl
                          grind [saysK, cif, saysI, inZ, humT, lossT, may_1]
                        exact hQ _ _ ⟨by rw [hz], by rw [hz]; exact cv⟩
                      refine j_tableOut (tgt := 206) dX11_says_136 (by have q0 := lv_neT c106 (a := 0) (by decide); have q1 := lv_neT c107 (a := 1) (by decide); have q2 := lv_neT c108 (a := 2) (by decide); have q3 := lv_neT c109 (a := 3) (by decide); have q4 := lv_neT c110 (a := 4) (by decide); have q5 := lv_neT c111 (a := 5) (by decide); have q6 := lv_neT c112 (a := 6) (by decide); omega) rfl ?_
                      refine j_aload_n 3 dX11_says_206 rfl ?_
                      refine j_iload_n 2 dX11_says_207 rfl ?_
                      refine j_callV (kc := 0) (ks := 0) (a := 0) (b := 0) (d' := d) (As := [.int (nI i)]) dX11_says_208 kX11_141 rfl (shM hM sgM_0) (by omega) rfl rfl rfl (Nat.le_of_ble_eq_true rfl) (Nat.le_of_ble_eq_true rfl) (T_X11_loss hM hS okS i (by omega)) (kk_p ?_)
                      refine j_iret dX11_says_211 rfl ?_
                      have hz : saysK Z q k = ((lossT Z.1 i), Z) := by
                        clear hQ
                        clear cv hM hS ok
                        have h01 := (okS.th hi).2.2.2
                        have hcl := nI_clamp (show i < 2 ^ 31 by omega)
                        have hin := i_ok hi (show nT Z.1 < 2 ^ 31 by omega)
                        have hone := one_all (q := q) (okS.th hi).1
                        have hsf := sfar_c (c := Z.1 12 i)
                        rw [← hp] at hin hcl
                        grind [saysK, cif, saysI, inZ, humT, lossT, may_1]
                      exact hQ _ _ ⟨by rw [hz], by rw [hz]; exact cv⟩
                    · refine j_iload_n 5 dX11_says_117 rfl ?_
                      refine j_iload 1 dX11_says_118 rfl ?_
                      refine j_icmp_eq (tgt := 135) dX11_says_120 rfl (fun c113 => ?_) (fun c113 => ?_)
                      · refine j_iload_n 5 dX11_says_135 rfl ?_
                        by_cases c115 : q = 0
                        · refine j_tableIn (tgt := 180) dX11_says_136 (by rw [c115]; decide) (by rw [c115]; decide) (off := 44) (by rw [c115]; decide) rfl ?_
                          refine j_aload_n 3 dX11_says_180 rfl ?_
                          refine j_getr (q := 4) dX11_says_181 fX11_35 (shM hM sgM_0) rfl (rfM hM rfM_0_12) ?_
                          refine j_iload_n 2 dX11_says_184 rfl ?_
                          refine j_ialdN i dX11_says_185 (shM hM sgM_4) (by omega) (by omega) ?_
                          refine j_topi (Z.1 12 i) (mr_arT hS (k := 2) (by omega) (by decide)) ?_
                          refine j_iret dX11_says_186 rfl ?_
                          have hz : saysK Z q k = ((Z.1 12 i), Z) := by
                            clear hQ
                            clear cv hM hS ok
                            have h01 := (okS.th hi).2.2.2
                            have hcl := nI_clamp (show i < 2 ^ 31 by omega)
                            have hin := i_ok hi (show nT Z.1 < 2 ^ 31 by omega)
                            have hone := one_all (q := q) (okS.th hi).1
                            have hsf := sfar_c (c := Z.1 12 i)
                            rw [← hp] at hin hcl
                            grind [saysK, cif, saysI, inZ, humT, lossT, may_1]
                          exact hQ _ _ ⟨by rw [hz], by rw [hz]; exact cv⟩
                        by_cases c116 : q = 1
                        · refine j_tableIn (tgt := 206) dX11_says_136 (by rw [c116]; decide) (by rw [c116]; decide) (off := 70) (by rw [c116]; decide) rfl ?_
                          refine j_aload_n 3 dX11_says_206 rfl ?_
                          refine j_iload_n 2 dX11_says_207 rfl ?_
                          refine j_callV (kc := 0) (ks := 0) (a := 0) (b := 0) (d' := d) (As := [.int (nI i)]) dX11_says_208 kX11_141 rfl (shM hM sgM_0) (by omega) rfl rfl rfl (Nat.le_of_ble_eq_true rfl) (Nat.le_of_ble_eq_true rfl) (T_X11_loss hM hS okS i (by omega)) (kk_p ?_)
                          refine j_iret dX11_says_211 rfl ?_
                          have hz : saysK Z q k = ((lossT Z.1 i), Z) := by
                            clear hQ
                            clear cv hM hS ok
                            have h01 := (okS.th hi).2.2.2
                            have hcl := nI_clamp (show i < 2 ^ 31 by omega)
                            have hin := i_ok hi (show nT Z.1 < 2 ^ 31 by omega)
                            have hone := one_all (q := q) (okS.th hi).1
                            have hsf := sfar_c (c := Z.1 12 i)
                            rw [← hp] at hin hcl
                            grind [saysK, cif, saysI, inZ, humT, lossT, may_1]
                          exact hQ _ _ ⟨by rw [hz], by rw [hz]; exact cv⟩
                        by_cases c117 : q = 2
                        · refine j_tableIn (tgt := 187) dX11_says_136 (by rw [c117]; decide) (by rw [c117]; decide) (off := 51) (by rw [c117]; decide) rfl ?_
                          refine j_aload_n 3 dX11_says_187 rfl ?_
                          refine j_getr (q := 5) dX11_says_188 fX11_38 (shM hM sgM_0) rfl (rfM hM rfM_0_13) ?_
                          refine j_iload_n 2 dX11_says_191 rfl ?_
                          refine j_ialdN i dX11_says_192 (shM hM sgM_5) (by omega) (by omega) ?_
                          refine j_topi (Z.1 13 i) (mr_arT hS (k := 3) (by omega) (by decide)) ?_
                          refine j_iret dX11_says_193 rfl ?_
                          have hz : saysK Z q k = ((Z.1 13 i), Z) := by
                            clear hQ
                            clear cv hM hS ok
                            have h01 := (okS.th hi).2.2.2
                            have hcl := nI_clamp (show i < 2 ^ 31 by omega)
                            have hin := i_ok hi (show nT Z.1 < 2 ^ 31 by omega)
                            have hone := one_all (q := q) (okS.th hi).1
                            have hsf := sfar_c (c := Z.1 12 i)
                            rw [← hp] at hin hcl
                            grind [saysK, cif, saysI, inZ, humT, lossT, may_1]
                          exact hQ _ _ ⟨by rw [hz], by rw [hz]; exact cv⟩
                        by_cases c118 : q = 3
                        · refine j_tableIn (tgt := 206) dX11_says_136 (by rw [c118]; decide) (by rw [c118]; decide) (off := 70) (by rw [c118]; decide) rfl ?_
                          refine j_aload_n 3 dX11_says_206 rfl ?_
                          refine j_iload_n 2 dX11_says_207 rfl ?_
                          refine j_callV (kc := 0) (ks := 0) (a := 0) (b := 0) (d' := d) (As := [.int (nI i)]) dX11_says_208 kX11_141 rfl (shM hM sgM_0) (by omega) rfl rfl rfl (Nat.le_of_ble_eq_true rfl) (Nat.le_of_ble_eq_true rfl) (T_X11_loss hM hS okS i (by omega)) (kk_p ?_)
                          refine j_iret dX11_says_211 rfl ?_
                          have hz : saysK Z q k = ((lossT Z.1 i), Z) := by
                            clear hQ
                            clear cv hM hS ok
                            have h01 := (okS.th hi).2.2.2
                            have hcl := nI_clamp (show i < 2 ^ 31 by omega)
                            have hin := i_ok hi (show nT Z.1 < 2 ^ 31 by omega)
                            have hone := one_all (q := q) (okS.th hi).1
                            have hsf := sfar_c (c := Z.1 12 i)
                            rw [← hp] at hin hcl
                            grind [saysK, cif, saysI, inZ, humT, lossT, may_1]
                          exact hQ _ _ ⟨by rw [hz], by rw [hz]; exact cv⟩
                        by_cases c119 : q = 4
                        · refine j_tableIn (tgt := 194) dX11_says_136 (by rw [c119]; decide) (by rw [c119]; decide) (off := 58) (by rw [c119]; decide) rfl ?_
                          refine j_aload_n 3 dX11_says_194 rfl ?_
                          refine j_iload_n 2 dX11_says_195 rfl ?_
                          refine j_aload_n 3 dX11_says_196 rfl ?_
                          refine j_getr (q := 4) dX11_says_197 fX11_35 (shM hM sgM_0) rfl (rfM hM rfM_0_12) ?_
                          refine j_iload_n 2 dX11_says_200 rfl ?_
                          refine j_ialdN i dX11_says_201 (shM hM sgM_4) (by omega) (by omega) ?_
                          refine j_topi (Z.1 12 i) (mr_arT hS (k := 2) (by omega) (by decide)) ?_
                          refine j_callV (kc := 0) (ks := 0) (a := 0) (b := 0) (d' := (d + 2)) (As := [.int (nI i), .int (Z.1 12 i)]) dX11_says_202 kX11_137 rfl (shM hM sgM_0) (by omega) rfl rfl rfl (Nat.le_of_ble_eq_true rfl) (Nat.le_of_ble_eq_true rfl) (T_X11_hums hM hS okS i (by omega) (Z.1 12 i) (isC_P okS (okS.th hi).2.2.1)) (kk_p ?_)
                          refine j_iret dX11_says_205 rfl ?_
                          have hz : saysK Z q k = ((humT Z.1 i (Z.1 12 i)), Z) := by
                            clear hQ
                            clear cv hM hS ok
                            have h01 := (okS.th hi).2.2.2
                            have hcl := nI_clamp (show i < 2 ^ 31 by omega)
                            have hin := i_ok hi (show nT Z.1 < 2 ^ 31 by omega)
                            have hone := one_all (q := q) (okS.th hi).1
                            have hsf := sfar_c (c := Z.1 12 i)
                            rw [← hp] at hin hcl
                            grind [saysK, cif, saysI, inZ, humT, lossT, may_1]
                          exact hQ _ _ ⟨by rw [hz], by rw [hz]; exact cv⟩
                        by_cases c120 : q = 5
                        · refine j_tableIn (tgt := 206) dX11_says_136 (by rw [c120]; decide) (by rw [c120]; decide) (off := 70) (by rw [c120]; decide) rfl ?_
                          refine j_aload_n 3 dX11_says_206 rfl ?_
                          refine j_iload_n 2 dX11_says_207 rfl ?_
                          refine j_callV (kc := 0) (ks := 0) (a := 0) (b := 0) (d' := d) (As := [.int (nI i)]) dX11_says_208 kX11_141 rfl (shM hM sgM_0) (by omega) rfl rfl rfl (Nat.le_of_ble_eq_true rfl) (Nat.le_of_ble_eq_true rfl) (T_X11_loss hM hS okS i (by omega)) (kk_p ?_)
                          refine j_iret dX11_says_211 rfl ?_
                          have hz : saysK Z q k = ((lossT Z.1 i), Z) := by
                            clear hQ
                            clear cv hM hS ok
                            have h01 := (okS.th hi).2.2.2
                            have hcl := nI_clamp (show i < 2 ^ 31 by omega)
                            have hin := i_ok hi (show nT Z.1 < 2 ^ 31 by omega)
                            have hone := one_all (q := q) (okS.th hi).1
                            have hsf := sfar_c (c := Z.1 12 i)
                            rw [← hp] at hin hcl
                            grind [saysK, cif, saysI, inZ, humT, lossT, may_1]
                          exact hQ _ _ ⟨by rw [hz], by rw [hz]; exact cv⟩
                        by_cases c121 : q = 6
                        · refine j_tableIn (tgt := 194) dX11_says_136 (by rw [c121]; decide) (by rw [c121]; decide) (off := 58) (by rw [c121]; decide) rfl ?_
                          refine j_aload_n 3 dX11_says_194 rfl ?_
                          refine j_iload_n 2 dX11_says_195 rfl ?_
                          refine j_aload_n 3 dX11_says_196 rfl ?_
                          refine j_getr (q := 4) dX11_says_197 fX11_35 (shM hM sgM_0) rfl (rfM hM rfM_0_12) ?_
                          refine j_iload_n 2 dX11_says_200 rfl ?_
                          refine j_ialdN i dX11_says_201 (shM hM sgM_4) (by omega) (by omega) ?_
                          refine j_topi (Z.1 12 i) (mr_arT hS (k := 2) (by omega) (by decide)) ?_
                          refine j_callV (kc := 0) (ks := 0) (a := 0) (b := 0) (d' := (d + 2)) (As := [.int (nI i), .int (Z.1 12 i)]) dX11_says_202 kX11_137 rfl (shM hM sgM_0) (by omega) rfl rfl rfl (Nat.le_of_ble_eq_true rfl) (Nat.le_of_ble_eq_true rfl) (T_X11_hums hM hS okS i (by omega) (Z.1 12 i) (isC_P okS (okS.th hi).2.2.1)) (kk_p ?_)
                          refine j_iret dX11_says_205 rfl ?_
                          have hz : saysK Z q k = ((humT Z.1 i (Z.1 12 i)), Z) := by
                            clear hQ
                            clear cv hM hS ok
                            have h01 := (okS.th hi).2.2.2
                            have hcl := nI_clamp (show i < 2 ^ 31 by omega)
                            have hin := i_ok hi (show nT Z.1 < 2 ^ 31 by omega)
                            have hone := one_all (q := q) (okS.th hi).1
                            have hsf := sfar_c (c := Z.1 12 i)
                            rw [← hp] at hin hcl
                            grind [saysK, cif, saysI, inZ, humT, lossT, may_1]
                          exact hQ _ _ ⟨by rw [hz], by rw [hz]; exact cv⟩
                        refine j_tableOut (tgt := 206) dX11_says_136 (by have q0 := lv_neT c115 (a := 0) (by decide); have q1 := lv_neT c116 (a := 1) (by decide); have q2 := lv_neT c117 (a := 2) (by decide); have q3 := lv_neT c118 (a := 3) (by decide); have q4 := lv_neT c119 (a := 4) (by decide); have q5 := lv_neT c120 (a := 5) (by decide); have q6 := lv_neT c121 (a := 6) (by decide); omega) rfl ?_
                        refine j_aload_n 3 dX11_says_206 rfl ?_
                        refine j_iload_n 2 dX11_says_207 rfl ?_
                        refine j_callV (kc := 0) (ks := 0) (a := 0) (b := 0) (d' := d) (As := [.int (nI i)]) dX11_says_208 kX11_141 rfl (shM hM sgM_0) (by omega) rfl rfl rfl (Nat.le_of_ble_eq_true rfl) (Nat.le_of_ble_eq_true rfl) (T_X11_loss hM hS okS i (by omega)) (kk_p ?_)
                        refine j_iret dX11_says_211 rfl ?_
                        have hz : saysK Z q k = ((lossT Z.1 i), Z) := by
                          clear hQ
                          clear cv hM hS ok
                          have h01 := (okS.th hi).2.2.2
                          have hcl := nI_clamp (show i < 2 ^ 31 by omega)
                          have hin := i_ok hi (show nT Z.1 < 2 ^ 31 by omega)
                          have hone := one_all (q := q) (okS.th hi).1
                          have hsf := sfar_c (c := Z.1 12 i)
                          rw [← hp] at hin hcl
                          grind [saysK, cif, saysI, inZ, humT, lossT, may_1]
                        exact hQ _ _ ⟨by rw [hz], by rw [hz]; exact cv⟩
                      · refine j_iload 0 dX11_says_123 rfl ?_
                        refine j_if_ne (tgt := 135) dX11_says_125 rfl (fun c122 => ?_) (fun c122 => ?_)
                        · exact absurd c122 (by decide)
                        · refine j_aload_n 3 dX11_says_128 rfl ?_
                          refine j_bipush (-2) dX11_says_129 bp_n2 ?_
                          refine j_callV (kc := 0) (ks := 0) (a := 0) (b := 0) (d' := d) (As := [.int (-2)]) dX11_says_131 kX11_130 rfl (shM hM sgM_0) (by omega) rfl rfl rfl (Nat.le_of_ble_eq_true rfl) (Nat.le_of_ble_eq_true rfl) (T_X11_no hM (-2) (by decide)) (kk_p ?_)
                          refine j_iret dX11_says_134 rfl ?_
                          have hz : saysK Z q k = ((-2), (refZ Z (-2))) := by
                            clear hQ
                            clear cv hM hS ok
                            have h01 := (okS.th hi).2.2.2
                            have hcl := nI_clamp (show i < 2 ^ 31 by omega)
                            have hin := i_ok hi (show nT Z.1 < 2 ^ 31 by omega)
                            have hone := one_all (q := q) (okS.th hi).1
                            have hsf := sfar_c (c := Z.1 12 i)
                            rw [← hp] at hin hcl
                            grind [saysK, cif, saysI, inZ, humT, lossT, may_1]
                          exact hQ _ _ ⟨by rw [hz], by rw [hz]; exact MV.rf cv (by decide)⟩
                  · refine j_iload 0 dX11_says_99 rfl ?_
                    refine j_bipush 6 dX11_says_101 bp_6 ?_
                    refine j_icmp_ne (tgt := 110) dX11_says_103 rfl (fun c123 => ?_) (fun c123 => ?_)
                    · refine j_iconst 0 dX11_says_110 ic_0 ?_
                      refine j_istore (L' := [(5, .int 0), (4, .int (Z.1 10 i)), (3, .int (nI i)), (0, .ref 0), (1, .int (nI k)), (2, .int q)]) dX11_says_111 (by decide) rfl ?_
                      refine j_iload_n 5 dX11_says_113 rfl ?_
                      refine j_if_eq (tgt := 135) dX11_says_114 rfl (fun c124 => ?_) (fun c124 => ?_)
                      · refine j_iload_n 5 dX11_says_135 rfl ?_
                        by_cases c126 : q = 0
                        · refine j_tableIn (tgt := 180) dX11_says_136 (by rw [c126]; decide) (by rw [c126]; decide) (off := 44) (by rw [c126]; decide) rfl ?_
                          refine j_aload_n 3 dX11_says_180 rfl ?_
                          refine j_getr (q := 4) dX11_says_181 fX11_35 (shM hM sgM_0) rfl (rfM hM rfM_0_12) ?_
                          refine j_iload_n 2 dX11_says_184 rfl ?_
                          refine j_ialdN i dX11_says_185 (shM hM sgM_4) (by omega) (by omega) ?_
                          refine j_topi (Z.1 12 i) (mr_arT hS (k := 2) (by omega) (by decide)) ?_
                          refine j_iret dX11_says_186 rfl ?_
                          have hz : saysK Z q k = ((Z.1 12 i), Z) := by
                            clear hQ
                            clear cv hM hS ok
                            have h01 := (okS.th hi).2.2.2
                            have hcl := nI_clamp (show i < 2 ^ 31 by omega)
                            have hin := i_ok hi (show nT Z.1 < 2 ^ 31 by omega)
                            have hone := one_all (q := q) (okS.th hi).1
                            have hsf := sfar_c (c := Z.1 12 i)
                            rw [← hp] at hin hcl
                            grind [saysK, cif, saysI, inZ, humT, lossT, may_1]
                          exact hQ _ _ ⟨by rw [hz], by rw [hz]; exact cv⟩
                        by_cases c127 : q = 1
                        · refine j_tableIn (tgt := 206) dX11_says_136 (by rw [c127]; decide) (by rw [c127]; decide) (off := 70) (by rw [c127]; decide) rfl ?_
                          refine j_aload_n 3 dX11_says_206 rfl ?_
                          refine j_iload_n 2 dX11_says_207 rfl ?_
                          refine j_callV (kc := 0) (ks := 0) (a := 0) (b := 0) (d' := d) (As := [.int (nI i)]) dX11_says_208 kX11_141 rfl (shM hM sgM_0) (by omega) rfl rfl rfl (Nat.le_of_ble_eq_true rfl) (Nat.le_of_ble_eq_true rfl) (T_X11_loss hM hS okS i (by omega)) (kk_p ?_)
                          refine j_iret dX11_says_211 rfl ?_
                          have hz : saysK Z q k = ((lossT Z.1 i), Z) := by
                            clear hQ
                            clear cv hM hS ok
                            have h01 := (okS.th hi).2.2.2
                            have hcl := nI_clamp (show i < 2 ^ 31 by omega)
                            have hin := i_ok hi (show nT Z.1 < 2 ^ 31 by omega)
                            have hone := one_all (q := q) (okS.th hi).1
                            have hsf := sfar_c (c := Z.1 12 i)
                            rw [← hp] at hin hcl
                            grind [saysK, cif, saysI, inZ, humT, lossT, may_1]
                          exact hQ _ _ ⟨by rw [hz], by rw [hz]; exact cv⟩
                        by_cases c128 : q = 2
                        · refine j_tableIn (tgt := 187) dX11_says_136 (by rw [c128]; decide) (by rw [c128]; decide) (off := 51) (by rw [c128]; decide) rfl ?_
                          refine j_aload_n 3 dX11_says_187 rfl ?_
                          refine j_getr (q := 5) dX11_says_188 fX11_38 (shM hM sgM_0) rfl (rfM hM rfM_0_13) ?_
                          refine j_iload_n 2 dX11_says_191 rfl ?_
                          refine j_ialdN i dX11_says_192 (shM hM sgM_5) (by omega) (by omega) ?_
                          refine j_topi (Z.1 13 i) (mr_arT hS (k := 3) (by omega) (by decide)) ?_
                          refine j_iret dX11_says_193 rfl ?_
                          have hz : saysK Z q k = ((Z.1 13 i), Z) := by
                            clear hQ
                            clear cv hM hS ok
                            have h01 := (okS.th hi).2.2.2
                            have hcl := nI_clamp (show i < 2 ^ 31 by omega)
                            have hin := i_ok hi (show nT Z.1 < 2 ^ 31 by omega)
                            have hone := one_all (q := q) (okS.th hi).1
                            have hsf := sfar_c (c := Z.1 12 i)
                            rw [← hp] at hin hcl
                            grind [saysK, cif, saysI, inZ, humT, lossT, may_1]
                          exact hQ _ _ ⟨by rw [hz], by rw [hz]; exact cv⟩
                        by_cases c129 : q = 3
                        · refine j_tableIn (tgt := 206) dX11_says_136 (by rw [c129]; decide) (by rw [c129]; decide) (off := 70) (by rw [c129]; decide) rfl ?_
                          refine j_aload_n 3 dX11_says_206 rfl ?_
                          refine j_iload_n 2 dX11_says_207 rfl ?_
                          refine j_callV (kc := 0) (ks := 0) (a := 0) (b := 0) (d' := d) (As := [.int (nI i)]) dX11_says_208 kX11_141 rfl (shM hM sgM_0) (by omega) rfl rfl rfl (Nat.le_of_ble_eq_true rfl) (Nat.le_of_ble_eq_true rfl) (T_X11_loss hM hS okS i (by omega)) (kk_p ?_)
                          refine j_iret dX11_says_211 rfl ?_
                          have hz : saysK Z q k = ((lossT Z.1 i), Z) := by
                            clear hQ
                            clear cv hM hS ok
                            have h01 := (okS.th hi).2.2.2
                            have hcl := nI_clamp (show i < 2 ^ 31 by omega)
                            have hin := i_ok hi (show nT Z.1 < 2 ^ 31 by omega)
                            have hone := one_all (q := q) (okS.th hi).1
                            have hsf := sfar_c (c := Z.1 12 i)
                            rw [← hp] at hin hcl
                            grind [saysK, cif, saysI, inZ, humT, lossT, may_1]
                          exact hQ _ _ ⟨by rw [hz], by rw [hz]; exact cv⟩
                        by_cases c130 : q = 4
                        · refine j_tableIn (tgt := 194) dX11_says_136 (by rw [c130]; decide) (by rw [c130]; decide) (off := 58) (by rw [c130]; decide) rfl ?_
                          refine j_aload_n 3 dX11_says_194 rfl ?_
                          refine j_iload_n 2 dX11_says_195 rfl ?_
                          refine j_aload_n 3 dX11_says_196 rfl ?_
                          refine j_getr (q := 4) dX11_says_197 fX11_35 (shM hM sgM_0) rfl (rfM hM rfM_0_12) ?_
                          refine j_iload_n 2 dX11_says_200 rfl ?_
                          refine j_ialdN i dX11_says_201 (shM hM sgM_4) (by omega) (by omega) ?_
                          refine j_topi (Z.1 12 i) (mr_arT hS (k := 2) (by omega) (by decide)) ?_
                          refine j_callV (kc := 0) (ks := 0) (a := 0) (b := 0) (d' := (d + 2)) (As := [.int (nI i), .int (Z.1 12 i)]) dX11_says_202 kX11_137 rfl (shM hM sgM_0) (by omega) rfl rfl rfl (Nat.le_of_ble_eq_true rfl) (Nat.le_of_ble_eq_true rfl) (T_X11_hums hM hS okS i (by omega) (Z.1 12 i) (isC_P okS (okS.th hi).2.2.1)) (kk_p ?_)
                          refine j_iret dX11_says_205 rfl ?_
                          have hz : saysK Z q k = ((humT Z.1 i (Z.1 12 i)), Z) := by
                            clear hQ
                            clear cv hM hS ok
                            have h01 := (okS.th hi).2.2.2
                            have hcl := nI_clamp (show i < 2 ^ 31 by omega)
                            have hin := i_ok hi (show nT Z.1 < 2 ^ 31 by omega)
                            have hone := one_all (q := q) (okS.th hi).1
                            have hsf := sfar_c (c := Z.1 12 i)
                            rw [← hp] at hin hcl
                            grind [saysK, cif, saysI, inZ, humT, lossT, may_1]
                          exact hQ _ _ ⟨by rw [hz], by rw [hz]; exact cv⟩
                        by_cases c131 : q = 5
                        · refine j_tableIn (tgt := 206) dX11_says_136 (by rw [c131]; decide) (by rw [c131]; decide) (off := 70) (by rw [c131]; decide) rfl ?_
                          refine j_aload_n 3 dX11_says_206 rfl ?_
                          refine j_iload_n 2 dX11_says_207 rfl ?_
                          refine j_callV (kc := 0) (ks := 0) (a := 0) (b := 0) (d' := d) (As := [.int (nI i)]) dX11_says_208 kX11_141 rfl (shM hM sgM_0) (by omega) rfl rfl rfl (Nat.le_of_ble_eq_true rfl) (Nat.le_of_ble_eq_true rfl) (T_X11_loss hM hS okS i (by omega)) (kk_p ?_)
                          refine j_iret dX11_says_211 rfl ?_
                          have hz : saysK Z q k = ((lossT Z.1 i), Z) := by
                            clear hQ
                            clear cv hM hS ok
                            have h01 := (okS.th hi).2.2.2
                            have hcl := nI_clamp (show i < 2 ^ 31 by omega)
                            have hin := i_ok hi (show nT Z.1 < 2 ^ 31 by omega)
                            have hone := one_all (q := q) (okS.th hi).1
                            have hsf := sfar_c (c := Z.1 12 i)
                            rw [← hp] at hin hcl
                            grind [saysK, cif, saysI, inZ, humT, lossT, may_1]
                          exact hQ _ _ ⟨by rw [hz], by rw [hz]; exact cv⟩
                        by_cases c132 : q = 6
                        · refine j_tableIn (tgt := 194) dX11_says_136 (by rw [c132]; decide) (by rw [c132]; decide) (off := 58) (by rw [c132]; decide) rfl ?_
                          refine j_aload_n 3 dX11_says_194 rfl ?_
                          refine j_iload_n 2 dX11_says_195 rfl ?_
                          refine j_aload_n 3 dX11_says_196 rfl ?_
                          refine j_getr (q := 4) dX11_says_197 fX11_35 (shM hM sgM_0) rfl (rfM hM rfM_0_12) ?_
                          refine j_iload_n 2 dX11_says_200 rfl ?_
                          refine j_ialdN i dX11_says_201 (shM hM sgM_4) (by omega) (by omega) ?_
                          refine j_topi (Z.1 12 i) (mr_arT hS (k := 2) (by omega) (by decide)) ?_
                          refine j_callV (kc := 0) (ks := 0) (a := 0) (b := 0) (d' := (d + 2)) (As := [.int (nI i), .int (Z.1 12 i)]) dX11_says_202 kX11_137 rfl (shM hM sgM_0) (by omega) rfl rfl rfl (Nat.le_of_ble_eq_true rfl) (Nat.le_of_ble_eq_true rfl) (T_X11_hums hM hS okS i (by omega) (Z.1 12 i) (isC_P okS (okS.th hi).2.2.1)) (kk_p ?_)
                          refine j_iret dX11_says_205 rfl ?_
                          have hz : saysK Z q k = ((humT Z.1 i (Z.1 12 i)), Z) := by
                            clear hQ
                            clear cv hM hS ok
                            have h01 := (okS.th hi).2.2.2
                            have hcl := nI_clamp (show i < 2 ^ 31 by omega)
                            have hin := i_ok hi (show nT Z.1 < 2 ^ 31 by omega)
                            have hone := one_all (q := q) (okS.th hi).1
                            have hsf := sfar_c (c := Z.1 12 i)
                            rw [← hp] at hin hcl
                            grind [saysK, cif, saysI, inZ, humT, lossT, may_1]
                          exact hQ _ _ ⟨by rw [hz], by rw [hz]; exact cv⟩
                        refine j_tableOut (tgt := 206) dX11_says_136 (by have q0 := lv_neT c126 (a := 0) (by decide); have q1 := lv_neT c127 (a := 1) (by decide); have q2 := lv_neT c128 (a := 2) (by decide); have q3 := lv_neT c129 (a := 3) (by decide); have q4 := lv_neT c130 (a := 4) (by decide); have q5 := lv_neT c131 (a := 5) (by decide); have q6 := lv_neT c132 (a := 6) (by decide); omega) rfl ?_
                        refine j_aload_n 3 dX11_says_206 rfl ?_
                        refine j_iload_n 2 dX11_says_207 rfl ?_
                        refine j_callV (kc := 0) (ks := 0) (a := 0) (b := 0) (d' := d) (As := [.int (nI i)]) dX11_says_208 kX11_141 rfl (shM hM sgM_0) (by omega) rfl rfl rfl (Nat.le_of_ble_eq_true rfl) (Nat.le_of_ble_eq_true rfl) (T_X11_loss hM hS okS i (by omega)) (kk_p ?_)
                        refine j_iret dX11_says_211 rfl ?_
                        have hz : saysK Z q k = ((lossT Z.1 i), Z) := by
                          clear hQ
                          clear cv hM hS ok
                          have h01 := (okS.th hi).2.2.2
                          have hcl := nI_clamp (show i < 2 ^ 31 by omega)
                          have hin := i_ok hi (show nT Z.1 < 2 ^ 31 by omega)
                          have hone := one_all (q := q) (okS.th hi).1
                          have hsf := sfar_c (c := Z.1 12 i)
                          rw [← hp] at hin hcl
                          grind [saysK, cif, saysI, inZ, humT, lossT, may_1]
                        exact hQ _ _ ⟨by rw [hz], by rw [hz]; exact cv⟩
                      · refine j_iload_n 5 dX11_says_117 rfl ?_
                        refine j_iload 1 dX11_says_118 rfl ?_
                        refine j_icmp_eq (tgt := 135) dX11_says_120 rfl (fun c133 => ?_) (fun c133 => ?_)
                        · refine j_iload_n 5 dX11_says_135 rfl ?_
                          by_cases c135 : q = 0
                          · refine j_tableIn (tgt := 180) dX11_says_136 (by rw [c135]; decide) (by rw [c135]; decide) (off := 44) (by rw [c135]; decide) rfl ?_
                            refine j_aload_n 3 dX11_says_180 rfl ?_
                            refine j_getr (q := 4) dX11_says_181 fX11_35 (shM hM sgM_0) rfl (rfM hM rfM_0_12) ?_
                            refine j_iload_n 2 dX11_says_184 rfl ?_
                            refine j_ialdN i dX11_says_185 (shM hM sgM_4) (by omega) (by omega) ?_
                            refine j_topi (Z.1 12 i) (mr_arT hS (k := 2) (by omega) (by decide)) ?_
                            refine j_iret dX11_says_186 rfl ?_
                            have hz : saysK Z q k = ((Z.1 12 i), Z) := by
                              clear hQ
                              clear cv hM hS ok
                              have h01 := (okS.th hi).2.2.2
                              have hcl := nI_clamp (show i < 2 ^ 31 by omega)
                              have hin := i_ok hi (show nT Z.1 < 2 ^ 31 by omega)
                              have hone := one_all (q := q) (okS.th hi).1
                              have hsf := sfar_c (c := Z.1 12 i)
                              rw [← hp] at hin hcl
                              grind [saysK, cif, saysI, inZ, humT, lossT, may_1]
                            exact hQ _ _ ⟨by rw [hz], by rw [hz]; exact cv⟩
                          by_cases c136 : q = 1
                          · refine j_tableIn (tgt := 206) dX11_says_136 (by rw [c136]; decide) (by rw [c136]; decide) (off := 70) (by rw [c136]; decide) rfl ?_
                            refine j_aload_n 3 dX11_says_206 rfl ?_
                            refine j_iload_n 2 dX11_says_207 rfl ?_
                            refine j_callV (kc := 0) (ks := 0) (a := 0) (b := 0) (d' := d) (As := [.int (nI i)]) dX11_says_208 kX11_141 rfl (shM hM sgM_0) (by omega) rfl rfl rfl (Nat.le_of_ble_eq_true rfl) (Nat.le_of_ble_eq_true rfl) (T_X11_loss hM hS okS i (by omega)) (kk_p ?_)
                            refine j_iret dX11_says_211 rfl ?_
                            have hz : saysK Z q k = ((lossT Z.1 i), Z) := by
                              clear hQ
                              clear cv hM hS ok
                              have h01 := (okS.th hi).2.2.2
                              have hcl := nI_clamp (show i < 2 ^ 31 by omega)
                              have hin := i_ok hi (show nT Z.1 < 2 ^ 31 by omega)
                              have hone := one_all (q := q) (okS.th hi).1
                              have hsf := sfar_c (c := Z.1 12 i)
                              rw [← hp] at hin hcl
                              grind [saysK, cif, saysI, inZ, humT, lossT, may_1]
                            exact hQ _ _ ⟨by rw [hz], by rw [hz]; exact cv⟩
                          by_cases c137 : q = 2
                          · refine j_tableIn (tgt := 187) dX11_says_136 (by rw [c137]; decide) (by rw [c137]; decide) (off := 51) (by rw [c137]; decide) rfl ?_
                            refine j_aload_n 3 dX11_says_187 rfl ?_
                            refine j_getr (q := 5) dX11_says_188 fX11_38 (shM hM sgM_0) rfl (rfM hM rfM_0_13) ?_
                            refine j_iload_n 2 dX11_says_191 rfl ?_
                            refine j_ialdN i dX11_says_192 (shM hM sgM_5) (by omega) (by omega) ?_
                            refine j_topi (Z.1 13 i) (mr_arT hS (k := 3) (by omega) (by decide)) ?_
                            refine j_iret dX11_says_193 rfl ?_
                            have hz : saysK Z q k = ((Z.1 13 i), Z) := by
                              clear hQ
                              clear cv hM hS ok
                              have h01 := (okS.th hi).2.2.2
                              have hcl := nI_clamp (show i < 2 ^ 31 by omega)
                              have hin := i_ok hi (show nT Z.1 < 2 ^ 31 by omega)
                              have hone := one_all (q := q) (okS.th hi).1
                              have hsf := sfar_c (c := Z.1 12 i)
                              rw [← hp] at hin hcl
                              grind [saysK, cif, saysI, inZ, humT, lossT, may_1]
                            exact hQ _ _ ⟨by rw [hz], by rw [hz]; exact cv⟩
                          by_cases c138 : q = 3
                          · refine j_tableIn (tgt := 206) dX11_says_136 (by rw [c138]; decide) (by rw [c138]; decide) (off := 70) (by rw [c138]; decide) rfl ?_
                            refine j_aload_n 3 dX11_says_206 rfl ?_
                            refine j_iload_n 2 dX11_says_207 rfl ?_
                            refine j_callV (kc := 0) (ks := 0) (a := 0) (b := 0) (d' := d) (As := [.int (nI i)]) dX11_says_208 kX11_141 rfl (shM hM sgM_0) (by omega) rfl rfl rfl (Nat.le_of_ble_eq_true rfl) (Nat.le_of_ble_eq_true rfl) (T_X11_loss hM hS okS i (by omega)) (kk_p ?_)
                            refine j_iret dX11_says_211 rfl ?_
                            have hz : saysK Z q k = ((lossT Z.1 i), Z) := by
                              clear hQ
                              clear cv hM hS ok
                              have h01 := (okS.th hi).2.2.2
                              have hcl := nI_clamp (show i < 2 ^ 31 by omega)
                              have hin := i_ok hi (show nT Z.1 < 2 ^ 31 by omega)
                              have hone := one_all (q := q) (okS.th hi).1
                              have hsf := sfar_c (c := Z.1 12 i)
                              rw [← hp] at hin hcl
                              grind [saysK, cif, saysI, inZ, humT, lossT, may_1]
                            exact hQ _ _ ⟨by rw [hz], by rw [hz]; exact cv⟩
                          by_cases c139 : q = 4
                          · refine j_tableIn (tgt := 194) dX11_says_136 (by rw [c139]; decide) (by rw [c139]; decide) (off := 58) (by rw [c139]; decide) rfl ?_
                            refine j_aload_n 3 dX11_says_194 rfl ?_
                            refine j_iload_n 2 dX11_says_195 rfl ?_
                            refine j_aload_n 3 dX11_says_196 rfl ?_
                            refine j_getr (q := 4) dX11_says_197 fX11_35 (shM hM sgM_0) rfl (rfM hM rfM_0_12) ?_
                            refine j_iload_n 2 dX11_says_200 rfl ?_
                            refine j_ialdN i dX11_says_201 (shM hM sgM_4) (by omega) (by omega) ?_
                            refine j_topi (Z.1 12 i) (mr_arT hS (k := 2) (by omega) (by decide)) ?_
                            refine j_callV (kc := 0) (ks := 0) (a := 0) (b := 0) (d' := (d + 2)) (As := [.int (nI i), .int (Z.1 12 i)]) dX11_says_202 kX11_137 rfl (shM hM sgM_0) (by omega) rfl rfl rfl (Nat.le_of_ble_eq_true rfl) (Nat.le_of_ble_eq_true rfl) (T_X11_hums hM hS okS i (by omega) (Z.1 12 i) (isC_P okS (okS.th hi).2.2.1)) (kk_p ?_)
                            refine j_iret dX11_says_205 rfl ?_
                            have hz : saysK Z q k = ((humT Z.1 i (Z.1 12 i)), Z) := by
                              clear hQ
                              clear cv hM hS ok
                              have h01 := (okS.th hi).2.2.2
                              have hcl := nI_clamp (show i < 2 ^ 31 by omega)
                              have hin := i_ok hi (show nT Z.1 < 2 ^ 31 by omega)
                              have hone := one_all (q := q) (okS.th hi).1
                              have hsf := sfar_c (c := Z.1 12 i)
                              rw [← hp] at hin hcl
                              grind [saysK, cif, saysI, inZ, humT, lossT, may_1]
                            exact hQ _ _ ⟨by rw [hz], by rw [hz]; exact cv⟩
                          by_cases c140 : q = 5
                          · refine j_tableIn (tgt := 206) dX11_says_136 (by rw [c140]; decide) (by rw [c140]; decide) (off := 70) (by rw [c140]; decide) rfl ?_
                            refine j_aload_n 3 dX11_says_206 rfl ?_
                            refine j_iload_n 2 dX11_says_207 rfl ?_
                            refine j_callV (kc := 0) (ks := 0) (a := 0) (b := 0) (d' := d) (As := [.int (nI i)]) dX11_says_208 kX11_141 rfl (shM hM sgM_0) (by omega) rfl rfl rfl (Nat.le_of_ble_eq_true rfl) (Nat.le_of_ble_eq_true rfl) (T_X11_loss hM hS okS i (by omega)) (kk_p ?_)
                            refine j_iret dX11_says_211 rfl ?_
                            have hz : saysK Z q k = ((lossT Z.1 i), Z) := by
                              clear hQ
                              clear cv hM hS ok
                              have h01 := (okS.th hi).2.2.2
                              have hcl := nI_clamp (show i < 2 ^ 31 by omega)
                              have hin := i_ok hi (show nT Z.1 < 2 ^ 31 by omega)
                              have hone := one_all (q := q) (okS.th hi).1
                              have hsf := sfar_c (c := Z.1 12 i)
                              rw [← hp] at hin hcl
                              grind [saysK, cif, saysI, inZ, humT, lossT, may_1]
                            exact hQ _ _ ⟨by rw [hz], by rw [hz]; exact cv⟩
                          by_cases c141 : q = 6
                          · refine j_tableIn (tgt := 194) dX11_says_136 (by rw [c141]; decide) (by rw [c141]; decide) (off := 58) (by rw [c141]; decide) rfl ?_
                            refine j_aload_n 3 dX11_says_194 rfl ?_
                            refine j_iload_n 2 dX11_says_195 rfl ?_
                            refine j_aload_n 3 dX11_says_196 rfl ?_
                            refine j_getr (q := 4) dX11_says_197 fX11_35 (shM hM sgM_0) rfl (rfM hM rfM_0_12) ?_
                            refine j_iload_n 2 dX11_says_200 rfl ?_
                            refine j_ialdN i dX11_says_201 (shM hM sgM_4) (by omega) (by omega) ?_
                            refine j_topi (Z.1 12 i) (mr_arT hS (k := 2) (by omega) (by decide)) ?_
                            refine j_callV (kc := 0) (ks := 0) (a := 0) (b := 0) (d' := (d + 2)) (As := [.int (nI i), .int (Z.1 12 i)]) dX11_says_202 kX11_137 rfl (shM hM sgM_0) (by omega) rfl rfl rfl (Nat.le_of_ble_eq_true rfl) (Nat.le_of_ble_eq_true rfl) (T_X11_hums hM hS okS i (by omega) (Z.1 12 i) (isC_P okS (okS.th hi).2.2.1)) (kk_p ?_)
                            refine j_iret dX11_says_205 rfl ?_
                            have hz : saysK Z q k = ((humT Z.1 i (Z.1 12 i)), Z) := by
                              clear hQ
                              clear cv hM hS ok
                              have h01 := (okS.th hi).2.2.2
                              have hcl := nI_clamp (show i < 2 ^ 31 by omega)
                              have hin := i_ok hi (show nT Z.1 < 2 ^ 31 by omega)
                              have hone := one_all (q := q) (okS.th hi).1
                              have hsf := sfar_c (c := Z.1 12 i)
                              rw [← hp] at hin hcl
                              grind [saysK, cif, saysI, inZ, humT, lossT, may_1]
                            exact hQ _ _ ⟨by rw [hz], by rw [hz]; exact cv⟩
                          refine j_tableOut (tgt := 206) dX11_says_136 (by have q0 := lv_neT c135 (a := 0) (by decide); have q1 := lv_neT c136 (a := 1) (by decide); have q2 := lv_neT c137 (a := 2) (by decide); have q3 := lv_neT c138 (a := 3) (by decide); have q4 := lv_neT c139 (a := 4) (by decide); have q5 := lv_neT c140 (a := 5) (by decide); have q6 := lv_neT c141 (a := 6) (by decide); omega) rfl ?_
                          refine j_aload_n 3 dX11_says_206 rfl ?_
                          refine j_iload_n 2 dX11_says_207 rfl ?_
                          refine j_callV (kc := 0) (ks := 0) (a := 0) (b := 0) (d' := d) (As := [.int (nI i)]) dX11_says_208 kX11_141 rfl (shM hM sgM_0) (by omega) rfl rfl rfl (Nat.le_of_ble_eq_true rfl) (Nat.le_of_ble_eq_true rfl) (T_X11_loss hM hS okS i (by omega)) (kk_p ?_)
                          refine j_iret dX11_says_211 rfl ?_
                          have hz : saysK Z q k = ((lossT Z.1 i), Z) := by
                            clear hQ
                            clear cv hM hS ok
                            have h01 := (okS.th hi).2.2.2
                            have hcl := nI_clamp (show i < 2 ^ 31 by omega)
                            have hin := i_ok hi (show nT Z.1 < 2 ^ 31 by omega)
                            have hone := one_all (q := q) (okS.th hi).1
                            have hsf := sfar_c (c := Z.1 12 i)
                            rw [← hp] at hin hcl
                            grind [saysK, cif, saysI, inZ, humT, lossT, may_1]
                          exact hQ _ _ ⟨by rw [hz], by rw [hz]; exact cv⟩
                        · refine j_iload 0 dX11_says_123 rfl ?_
                          refine j_if_ne (tgt := 135) dX11_says_125 rfl (fun c142 => ?_) (fun c142 => ?_)
                          · exact absurd c142 (by decide)
                          · refine j_aload_n 3 dX11_says_128 rfl ?_
                            refine j_bipush (-2) dX11_says_129 bp_n2 ?_
                            refine j_callV (kc := 0) (ks := 0) (a := 0) (b := 0) (d' := d) (As := [.int (-2)]) dX11_says_131 kX11_130 rfl (shM hM sgM_0) (by omega) rfl rfl rfl (Nat.le_of_ble_eq_true rfl) (Nat.le_of_ble_eq_true rfl) (T_X11_no hM (-2) (by decide)) (kk_p ?_)
                            refine j_iret dX11_says_134 rfl ?_
                            have hz : saysK Z q k = ((-2), (refZ Z (-2))) := by
                              clear hQ
                              clear cv hM hS ok
                              have h01 := (okS.th hi).2.2.2
                              have hcl := nI_clamp (show i < 2 ^ 31 by omega)
                              have hin := i_ok hi (show nT Z.1 < 2 ^ 31 by omega)
                              have hone := one_all (q := q) (okS.th hi).1
                              have hsf := sfar_c (c := Z.1 12 i)
                              rw [← hp] at hin hcl
                              grind [saysK, cif, saysI, inZ, humT, lossT, may_1]
                            exact hQ _ _ ⟨by rw [hz], by rw [hz]; exact MV.rf cv (by decide)⟩
                    · refine j_iconst 1 dX11_says_106 ic_1 ?_
                      refine j_goto (tgt := 111) dX11_says_107 rfl ?_
                      refine j_istore (L' := [(5, .int 1), (4, .int (Z.1 10 i)), (3, .int (nI i)), (0, .ref 0), (1, .int (nI k)), (2, .int q)]) dX11_says_111 (by decide) rfl ?_
                      refine j_iload_n 5 dX11_says_113 rfl ?_
                      refine j_if_eq (tgt := 135) dX11_says_114 rfl (fun c143 => ?_) (fun c143 => ?_)
                      · refine j_iload_n 5 dX11_says_135 rfl ?_
                        by_cases c145 : q = 0
                        · refine j_tableIn (tgt := 180) dX11_says_136 (by rw [c145]; decide) (by rw [c145]; decide) (off := 44) (by rw [c145]; decide) rfl ?_
                          refine j_aload_n 3 dX11_says_180 rfl ?_
                          refine j_getr (q := 4) dX11_says_181 fX11_35 (shM hM sgM_0) rfl (rfM hM rfM_0_12) ?_
                          refine j_iload_n 2 dX11_says_184 rfl ?_
                          refine j_ialdN i dX11_says_185 (shM hM sgM_4) (by omega) (by omega) ?_
                          refine j_topi (Z.1 12 i) (mr_arT hS (k := 2) (by omega) (by decide)) ?_
                          refine j_iret dX11_says_186 rfl ?_
                          have hz : saysK Z q k = ((Z.1 12 i), Z) := by
                            clear hQ
                            clear cv hM hS ok
                            have h01 := (okS.th hi).2.2.2
                            have hcl := nI_clamp (show i < 2 ^ 31 by omega)
                            have hin := i_ok hi (show nT Z.1 < 2 ^ 31 by omega)
                            have hone := one_all (q := q) (okS.th hi).1
                            have hsf := sfar_c (c := Z.1 12 i)
                            rw [← hp] at hin hcl
                            grind [saysK, cif, saysI, inZ, humT, lossT, may_1]
                          exact hQ _ _ ⟨by rw [hz], by rw [hz]; exact cv⟩
                        by_cases c146 : q = 1
                        · refine j_tableIn (tgt := 206) dX11_says_136 (by rw [c146]; decide) (by rw [c146]; decide) (off := 70) (by rw [c146]; decide) rfl ?_
                          refine j_aload_n 3 dX11_says_206 rfl ?_
                          refine j_iload_n 2 dX11_says_207 rfl ?_
                          refine j_callV (kc := 0) (ks := 0) (a := 0) (b := 0) (d' := d) (As := [.int (nI i)]) dX11_says_208 kX11_141 rfl (shM hM sgM_0) (by omega) rfl rfl rfl (Nat.le_of_ble_eq_true rfl) (Nat.le_of_ble_eq_true rfl) (T_X11_loss hM hS okS i (by omega)) (kk_p ?_)
                          refine j_iret dX11_says_211 rfl ?_
                          have hz : saysK Z q k = ((lossT Z.1 i), Z) := by
                            clear hQ
                            clear cv hM hS ok
                            have h01 := (okS.th hi).2.2.2
                            have hcl := nI_clamp (show i < 2 ^ 31 by omega)
                            have hin := i_ok hi (show nT Z.1 < 2 ^ 31 by omega)
                            have hone := one_all (q := q) (okS.th hi).1
                            have hsf := sfar_c (c := Z.1 12 i)
                            rw [← hp] at hin hcl
                            grind [saysK, cif, saysI, inZ, humT, lossT, may_1]
                          exact hQ _ _ ⟨by rw [hz], by rw [hz]; exact cv⟩
                        by_cases c147 : q = 2
                        · refine j_tableIn (tgt := 187) dX11_says_136 (by rw [c147]; decide) (by rw [c147]; decide) (off := 51) (by rw [c147]; decide) rfl ?_
                          refine j_aload_n 3 dX11_says_187 rfl ?_
                          refine j_getr (q := 5) dX11_says_188 fX11_38 (shM hM sgM_0) rfl (rfM hM rfM_0_13) ?_
                          refine j_iload_n 2 dX11_says_191 rfl ?_
                          refine j_ialdN i dX11_says_192 (shM hM sgM_5) (by omega) (by omega) ?_
                          refine j_topi (Z.1 13 i) (mr_arT hS (k := 3) (by omega) (by decide)) ?_
                          refine j_iret dX11_says_193 rfl ?_
                          have hz : saysK Z q k = ((Z.1 13 i), Z) := by
                            clear hQ
                            clear cv hM hS ok
                            have h01 := (okS.th hi).2.2.2
                            have hcl := nI_clamp (show i < 2 ^ 31 by omega)
                            have hin := i_ok hi (show nT Z.1 < 2 ^ 31 by omega)
                            have hone := one_all (q := q) (okS.th hi).1
                            have hsf := sfar_c (c := Z.1 12 i)
                            rw [← hp] at hin hcl
                            grind [saysK, cif, saysI, inZ, humT, lossT, may_1]
                          exact hQ _ _ ⟨by rw [hz], by rw [hz]; exact cv⟩
                        by_cases c148 : q = 3
                        · refine j_tableIn (tgt := 206) dX11_says_136 (by rw [c148]; decide) (by rw [c148]; decide) (off := 70) (by rw [c148]; decide) rfl ?_
                          refine j_aload_n 3 dX11_says_206 rfl ?_
                          refine j_iload_n 2 dX11_says_207 rfl ?_
                          refine j_callV (kc := 0) (ks := 0) (a := 0) (b := 0) (d' := d) (As := [.int (nI i)]) dX11_says_208 kX11_141 rfl (shM hM sgM_0) (by omega) rfl rfl rfl (Nat.le_of_ble_eq_true rfl) (Nat.le_of_ble_eq_true rfl) (T_X11_loss hM hS okS i (by omega)) (kk_p ?_)
                          refine j_iret dX11_says_211 rfl ?_
                          have hz : saysK Z q k = ((lossT Z.1 i), Z) := by
                            clear hQ
                            clear cv hM hS ok
                            have h01 := (okS.th hi).2.2.2
                            have hcl := nI_clamp (show i < 2 ^ 31 by omega)
                            have hin := i_ok hi (show nT Z.1 < 2 ^ 31 by omega)
                            have hone := one_all (q := q) (okS.th hi).1
                            have hsf := sfar_c (c := Z.1 12 i)
                            rw [← hp] at hin hcl
                            grind [saysK, cif, saysI, inZ, humT, lossT, may_1]
                          exact hQ _ _ ⟨by rw [hz], by rw [hz]; exact cv⟩
                        by_cases c149 : q = 4
                        · refine j_tableIn (tgt := 194) dX11_says_136 (by rw [c149]; decide) (by rw [c149]; decide) (off := 58) (by rw [c149]; decide) rfl ?_
                          refine j_aload_n 3 dX11_says_194 rfl ?_
                          refine j_iload_n 2 dX11_says_195 rfl ?_
                          refine j_aload_n 3 dX11_says_196 rfl ?_
                          refine j_getr (q := 4) dX11_says_197 fX11_35 (shM hM sgM_0) rfl (rfM hM rfM_0_12) ?_
                          refine j_iload_n 2 dX11_says_200 rfl ?_
                          refine j_ialdN i dX11_says_201 (shM hM sgM_4) (by omega) (by omega) ?_
                          refine j_topi (Z.1 12 i) (mr_arT hS (k := 2) (by omega) (by decide)) ?_
                          refine j_callV (kc := 0) (ks := 0) (a := 0) (b := 0) (d' := (d + 2)) (As := [.int (nI i), .int (Z.1 12 i)]) dX11_says_202 kX11_137 rfl (shM hM sgM_0) (by omega) rfl rfl rfl (Nat.le_of_ble_eq_true rfl) (Nat.le_of_ble_eq_true rfl) (T_X11_hums hM hS okS i (by omega) (Z.1 12 i) (isC_P okS (okS.th hi).2.2.1)) (kk_p ?_)
                          refine j_iret dX11_says_205 rfl ?_
                          have hz : saysK Z q k = ((humT Z.1 i (Z.1 12 i)), Z) := by
                            clear hQ
                            clear cv hM hS ok
                            have h01 := (okS.th hi).2.2.2
                            have hcl := nI_clamp (show i < 2 ^ 31 by omega)
                            have hin := i_ok hi (show nT Z.1 < 2 ^ 31 by omega)
                            have hone := one_all (q := q) (okS.th hi).1
                            have hsf := sfar_c (c := Z.1 12 i)
                            rw [← hp] at hin hcl
                            grind [saysK, cif, saysI, inZ, humT, lossT, may_1]
                          exact hQ _ _ ⟨by rw [hz], by rw [hz]; exact cv⟩
                        by_cases c150 : q = 5
                        · refine j_tableIn (tgt := 206) dX11_says_136 (by rw [c150]; decide) (by rw [c150]; decide) (off := 70) (by rw [c150]; decide) rfl ?_
                          refine j_aload_n 3 dX11_says_206 rfl ?_
                          refine j_iload_n 2 dX11_says_207 rfl ?_
                          refine j_callV (kc := 0) (ks := 0) (a := 0) (b := 0) (d' := d) (As := [.int (nI i)]) dX11_says_208 kX11_141 rfl (shM hM sgM_0) (by omega) rfl rfl rfl (Nat.le_of_ble_eq_true rfl) (Nat.le_of_ble_eq_true rfl) (T_X11_loss hM hS okS i (by omega)) (kk_p ?_)
                          refine j_iret dX11_says_211 rfl ?_
                          have hz : saysK Z q k = ((lossT Z.1 i), Z) := by
                            clear hQ
                            clear cv hM hS ok
                            have h01 := (okS.th hi).2.2.2
                            have hcl := nI_clamp (show i < 2 ^ 31 by omega)
                            have hin := i_ok hi (show nT Z.1 < 2 ^ 31 by omega)
                            have hone := one_all (q := q) (okS.th hi).1
                            have hsf := sfar_c (c := Z.1 12 i)
                            rw [← hp] at hin hcl
                            grind [saysK, cif, saysI, inZ, humT, lossT, may_1]
                          exact hQ _ _ ⟨by rw [hz], by rw [hz]; exact cv⟩
                        by_cases c151 : q = 6
                        · refine j_tableIn (tgt := 194) dX11_says_136 (by rw [c151]; decide) (by rw [c151]; decide) (off := 58) (by rw [c151]; decide) rfl ?_
                          refine j_aload_n 3 dX11_says_194 rfl ?_
                          refine j_iload_n 2 dX11_says_195 rfl ?_
                          refine j_aload_n 3 dX11_says_196 rfl ?_
                          refine j_getr (q := 4) dX11_says_197 fX11_35 (shM hM sgM_0) rfl (rfM hM rfM_0_12) ?_
                          refine j_iload_n 2 dX11_says_200 rfl ?_
                          refine j_ialdN i dX11_says_201 (shM hM sgM_4) (by omega) (by omega) ?_
                          refine j_topi (Z.1 12 i) (mr_arT hS (k := 2) (by omega) (by decide)) ?_
                          refine j_callV (kc := 0) (ks := 0) (a := 0) (b := 0) (d' := (d + 2)) (As := [.int (nI i), .int (Z.1 12 i)]) dX11_says_202 kX11_137 rfl (shM hM sgM_0) (by omega) rfl rfl rfl (Nat.le_of_ble_eq_true rfl) (Nat.le_of_ble_eq_true rfl) (T_X11_hums hM hS okS i (by omega) (Z.1 12 i) (isC_P okS (okS.th hi).2.2.1)) (kk_p ?_)
                          refine j_iret dX11_says_205 rfl ?_
                          have hz : saysK Z q k = ((humT Z.1 i (Z.1 12 i)), Z) := by
                            clear hQ
                            clear cv hM hS ok
                            have h01 := (okS.th hi).2.2.2
                            have hcl := nI_clamp (show i < 2 ^ 31 by omega)
                            have hin := i_ok hi (show nT Z.1 < 2 ^ 31 by omega)
                            have hone := one_all (q := q) (okS.th hi).1
                            have hsf := sfar_c (c := Z.1 12 i)
                            rw [← hp] at hin hcl
                            grind [saysK, cif, saysI, inZ, humT, lossT, may_1]
                          exact hQ _ _ ⟨by rw [hz], by rw [hz]; exact cv⟩
                        refine j_tableOut (tgt := 206) dX11_says_136 (by have q0 := lv_neT c145 (a := 0) (by decide); have q1 := lv_neT c146 (a := 1) (by decide); have q2 := lv_neT c147 (a := 2) (by decide); have q3 := lv_neT c148 (a := 3) (by decide); have q4 := lv_neT c149 (a := 4) (by decide); have q5 := lv_neT c150 (a := 5) (by decide); have q6 := lv_neT c151 (a := 6) (by decide); omega) rfl ?_
                        refine j_aload_n 3 dX11_says_206 rfl ?_
                        refine j_iload_n 2 dX11_says_207 rfl ?_
                        refine j_callV (kc := 0) (ks := 0) (a := 0) (b := 0) (d' := d) (As := [.int (nI i)]) dX11_says_208 kX11_141 rfl (shM hM sgM_0) (by omega) rfl rfl rfl (Nat.le_of_ble_eq_true rfl) (Nat.le_of_ble_eq_true rfl) (T_X11_loss hM hS okS i (by omega)) (kk_p ?_)
                        refine j_iret dX11_says_211 rfl ?_
                        have hz : saysK Z q k = ((lossT Z.1 i), Z) := by
                          clear hQ
                          clear cv hM hS ok
                          have h01 := (okS.th hi).2.2.2
                          have hcl := nI_clamp (show i < 2 ^ 31 by omega)
                          have hin := i_ok hi (show nT Z.1 < 2 ^ 31 by omega)
                          have hone := one_all (q := q) (okS.th hi).1
                          have hsf := sfar_c (c := Z.1 12 i)
                          rw [← hp] at hin hcl
                          grind [saysK, cif, saysI, inZ, humT, lossT, may_1]
                        exact hQ _ _ ⟨by rw [hz], by rw [hz]; exact cv⟩
                      · refine j_iload_n 5 dX11_says_117 rfl ?_
                        refine j_iload 1 dX11_says_118 rfl ?_
                        refine j_icmp_eq (tgt := 135) dX11_says_120 rfl (fun c152 => ?_) (fun c152 => ?_)
                        · refine j_iload_n 5 dX11_says_135 rfl ?_
                          by_cases c154 : q = 0
                          · refine j_tableIn (tgt := 180) dX11_says_136 (by rw [c154]; decide) (by rw [c154]; decide) (off := 44) (by rw [c154]; decide) rfl ?_
                            refine j_aload_n 3 dX11_says_180 rfl ?_
                            refine j_getr (q := 4) dX11_says_181 fX11_35 (shM hM sgM_0) rfl (rfM hM rfM_0_12) ?_
                            refine j_iload_n 2 dX11_says_184 rfl ?_
                            refine j_ialdN i dX11_says_185 (shM hM sgM_4) (by omega) (by omega) ?_
                            refine j_topi (Z.1 12 i) (mr_arT hS (k := 2) (by omega) (by decide)) ?_
                            refine j_iret dX11_says_186 rfl ?_
                            have hz : saysK Z q k = ((Z.1 12 i), Z) := by
                              clear hQ
                              clear cv hM hS ok
                              have h01 := (okS.th hi).2.2.2
                              have hcl := nI_clamp (show i < 2 ^ 31 by omega)
                              have hin := i_ok hi (show nT Z.1 < 2 ^ 31 by omega)
                              have hone := one_all (q := q) (okS.th hi).1
                              have hsf := sfar_c (c := Z.1 12 i)
                              rw [← hp] at hin hcl
                              grind [saysK, cif, saysI, inZ, humT, lossT, may_1]
                            exact hQ _ _ ⟨by rw [hz], by rw [hz]; exact cv⟩
                          by_cases c155 : q = 1
                          · refine j_tableIn (tgt := 206) dX11_says_136 (by rw [c155]; decide) (by rw [c155]; decide) (off := 70) (by rw [c155]; decide) rfl ?_
                            refine j_aload_n 3 dX11_says_206 rfl ?_
                            refine j_iload_n 2 dX11_says_207 rfl ?_
                            refine j_callV (kc := 0) (ks := 0) (a := 0) (b := 0) (d' := d) (As := [.int (nI i)]) dX11_says_208 kX11_141 rfl (shM hM sgM_0) (by omega) rfl rfl rfl (Nat.le_of_ble_eq_true rfl) (Nat.le_of_ble_eq_true rfl) (T_X11_loss hM hS okS i (by omega)) (kk_p ?_)
                            refine j_iret dX11_says_211 rfl ?_
                            have hz : saysK Z q k = ((lossT Z.1 i), Z) := by
                              clear hQ
                              clear cv hM hS ok
                              have h01 := (okS.th hi).2.2.2
                              have hcl := nI_clamp (show i < 2 ^ 31 by omega)
                              have hin := i_ok hi (show nT Z.1 < 2 ^ 31 by omega)
                              have hone := one_all (q := q) (okS.th hi).1
                              have hsf := sfar_c (c := Z.1 12 i)
                              rw [← hp] at hin hcl
                              grind [saysK, cif, saysI, inZ, humT, lossT, may_1]
                            exact hQ _ _ ⟨by rw [hz], by rw [hz]; exact cv⟩
                          by_cases c156 : q = 2
                          · refine j_tableIn (tgt := 187) dX11_says_136 (by rw [c156]; decide) (by rw [c156]; decide) (off := 51) (by rw [c156]; decide) rfl ?_
                            refine j_aload_n 3 dX11_says_187 rfl ?_
                            refine j_getr (q := 5) dX11_says_188 fX11_38 (shM hM sgM_0) rfl (rfM hM rfM_0_13) ?_
                            refine j_iload_n 2 dX11_says_191 rfl ?_
                            refine j_ialdN i dX11_says_192 (shM hM sgM_5) (by omega) (by omega) ?_
                            refine j_topi (Z.1 13 i) (mr_arT hS (k := 3) (by omega) (by decide)) ?_
                            refine j_iret dX11_says_193 rfl ?_
                            have hz : saysK Z q k = ((Z.1 13 i), Z) := by
                              clear hQ
                              clear cv hM hS ok
                              have h01 := (okS.th hi).2.2.2
                              have hcl := nI_clamp (show i < 2 ^ 31 by omega)
                              have hin := i_ok hi (show nT Z.1 < 2 ^ 31 by omega)
                              have hone := one_all (q := q) (okS.th hi).1
                              have hsf := sfar_c (c := Z.1 12 i)
                              rw [← hp] at hin hcl
                              grind [saysK, cif, saysI, inZ, humT, lossT, may_1]
                            exact hQ _ _ ⟨by rw [hz], by rw [hz]; exact cv⟩
                          by_cases c157 : q = 3
                          · refine j_tableIn (tgt := 206) dX11_says_136 (by rw [c157]; decide) (by rw [c157]; decide) (off := 70) (by rw [c157]; decide) rfl ?_
                            refine j_aload_n 3 dX11_says_206 rfl ?_
                            refine j_iload_n 2 dX11_says_207 rfl ?_
                            refine j_callV (kc := 0) (ks := 0) (a := 0) (b := 0) (d' := d) (As := [.int (nI i)]) dX11_says_208 kX11_141 rfl (shM hM sgM_0) (by omega) rfl rfl rfl (Nat.le_of_ble_eq_true rfl) (Nat.le_of_ble_eq_true rfl) (T_X11_loss hM hS okS i (by omega)) (kk_p ?_)
                            refine j_iret dX11_says_211 rfl ?_
                            have hz : saysK Z q k = ((lossT Z.1 i), Z) := by
                              clear hQ
                              clear cv hM hS ok
                              have h01 := (okS.th hi).2.2.2
                              have hcl := nI_clamp (show i < 2 ^ 31 by omega)
                              have hin := i_ok hi (show nT Z.1 < 2 ^ 31 by omega)
                              have hone := one_all (q := q) (okS.th hi).1
                              have hsf := sfar_c (c := Z.1 12 i)
                              rw [← hp] at hin hcl
                              grind [saysK, cif, saysI, inZ, humT, lossT, may_1]
                            exact hQ _ _ ⟨by rw [hz], by rw [hz]; exact cv⟩
                          by_cases c158 : q = 4
                          · refine j_tableIn (tgt := 194) dX11_says_136 (by rw [c158]; decide) (by rw [c158]; decide) (off := 58) (by rw [c158]; decide) rfl ?_
                            refine j_aload_n 3 dX11_says_194 rfl ?_
                            refine j_iload_n 2 dX11_says_195 rfl ?_
                            refine j_aload_n 3 dX11_says_196 rfl ?_
                            refine j_getr (q := 4) dX11_says_197 fX11_35 (shM hM sgM_0) rfl (rfM hM rfM_0_12) ?_
                            refine j_iload_n 2 dX11_says_200 rfl ?_
                            refine j_ialdN i dX11_says_201 (shM hM sgM_4) (by omega) (by omega) ?_
                            refine j_topi (Z.1 12 i) (mr_arT hS (k := 2) (by omega) (by decide)) ?_
                            refine j_callV (kc := 0) (ks := 0) (a := 0) (b := 0) (d' := (d + 2)) (As := [.int (nI i), .int (Z.1 12 i)]) dX11_says_202 kX11_137 rfl (shM hM sgM_0) (by omega) rfl rfl rfl (Nat.le_of_ble_eq_true rfl) (Nat.le_of_ble_eq_true rfl) (T_X11_hums hM hS okS i (by omega) (Z.1 12 i) (isC_P okS (okS.th hi).2.2.1)) (kk_p ?_)
                            refine j_iret dX11_says_205 rfl ?_
                            have hz : saysK Z q k = ((humT Z.1 i (Z.1 12 i)), Z) := by
                              clear hQ
                              clear cv hM hS ok
                              have h01 := (okS.th hi).2.2.2
                              have hcl := nI_clamp (show i < 2 ^ 31 by omega)
                              have hin := i_ok hi (show nT Z.1 < 2 ^ 31 by omega)
                              have hone := one_all (q := q) (okS.th hi).1
                              have hsf := sfar_c (c := Z.1 12 i)
                              rw [← hp] at hin hcl
                              grind [saysK, cif, saysI, inZ, humT, lossT, may_1]
                            exact hQ _ _ ⟨by rw [hz], by rw [hz]; exact cv⟩
                          by_cases c159 : q = 5
                          · refine j_tableIn (tgt := 206) dX11_says_136 (by rw [c159]; decide) (by rw [c159]; decide) (off := 70) (by rw [c159]; decide) rfl ?_
                            refine j_aload_n 3 dX11_says_206 rfl ?_
                            refine j_iload_n 2 dX11_says_207 rfl ?_
                            refine j_callV (kc := 0) (ks := 0) (a := 0) (b := 0) (d' := d) (As := [.int (nI i)]) dX11_says_208 kX11_141 rfl (shM hM sgM_0) (by omega) rfl rfl rfl (Nat.le_of_ble_eq_true rfl) (Nat.le_of_ble_eq_true rfl) (T_X11_loss hM hS okS i (by omega)) (kk_p ?_)
                            refine j_iret dX11_says_211 rfl ?_
                            have hz : saysK Z q k = ((lossT Z.1 i), Z) := by
                              clear hQ
                              clear cv hM hS ok
                              have h01 := (okS.th hi).2.2.2
                              have hcl := nI_clamp (show i < 2 ^ 31 by omega)
                              have hin := i_ok hi (show nT Z.1 < 2 ^ 31 by omega)
                              have hone := one_all (q := q) (okS.th hi).1
                              have hsf := sfar_c (c := Z.1 12 i)
                              rw [← hp] at hin hcl
                              grind [saysK, cif, saysI, inZ, humT, lossT, may_1]
                            exact hQ _ _ ⟨by rw [hz], by rw [hz]; exact cv⟩
                          by_cases c160 : q = 6
                          · refine j_tableIn (tgt := 194) dX11_says_136 (by rw [c160]; decide) (by rw [c160]; decide) (off := 58) (by rw [c160]; decide) rfl ?_
                            refine j_aload_n 3 dX11_says_194 rfl ?_
                            refine j_iload_n 2 dX11_says_195 rfl ?_
                            refine j_aload_n 3 dX11_says_196 rfl ?_
                            refine j_getr (q := 4) dX11_says_197 fX11_35 (shM hM sgM_0) rfl (rfM hM rfM_0_12) ?_
                            refine j_iload_n 2 dX11_says_200 rfl ?_
                            refine j_ialdN i dX11_says_201 (shM hM sgM_4) (by omega) (by omega) ?_
                            refine j_topi (Z.1 12 i) (mr_arT hS (k := 2) (by omega) (by decide)) ?_
                            refine j_callV (kc := 0) (ks := 0) (a := 0) (b := 0) (d' := (d + 2)) (As := [.int (nI i), .int (Z.1 12 i)]) dX11_says_202 kX11_137 rfl (shM hM sgM_0) (by omega) rfl rfl rfl (Nat.le_of_ble_eq_true rfl) (Nat.le_of_ble_eq_true rfl) (T_X11_hums hM hS okS i (by omega) (Z.1 12 i) (isC_P okS (okS.th hi).2.2.1)) (kk_p ?_)
                            refine j_iret dX11_says_205 rfl ?_
                            have hz : saysK Z q k = ((humT Z.1 i (Z.1 12 i)), Z) := by
                              clear hQ
                              clear cv hM hS ok
                              have h01 := (okS.th hi).2.2.2
                              have hcl := nI_clamp (show i < 2 ^ 31 by omega)
                              have hin := i_ok hi (show nT Z.1 < 2 ^ 31 by omega)
                              have hone := one_all (q := q) (okS.th hi).1
                              have hsf := sfar_c (c := Z.1 12 i)
                              rw [← hp] at hin hcl
                              grind [saysK, cif, saysI, inZ, humT, lossT, may_1]
                            exact hQ _ _ ⟨by rw [hz], by rw [hz]; exact cv⟩
                          refine j_tableOut (tgt := 206) dX11_says_136 (by have q0 := lv_neT c154 (a := 0) (by decide); have q1 := lv_neT c155 (a := 1) (by decide); have q2 := lv_neT c156 (a := 2) (by decide); have q3 := lv_neT c157 (a := 3) (by decide); have q4 := lv_neT c158 (a := 4) (by decide); have q5 := lv_neT c159 (a := 5) (by decide); have q6 := lv_neT c160 (a := 6) (by decide); omega) rfl ?_
                          refine j_aload_n 3 dX11_says_206 rfl ?_
                          refine j_iload_n 2 dX11_says_207 rfl ?_
                          refine j_callV (kc := 0) (ks := 0) (a := 0) (b := 0) (d' := d) (As := [.int (nI i)]) dX11_says_208 kX11_141 rfl (shM hM sgM_0) (by omega) rfl rfl rfl (Nat.le_of_ble_eq_true rfl) (Nat.le_of_ble_eq_true rfl) (T_X11_loss hM hS okS i (by omega)) (kk_p ?_)
                          refine j_iret dX11_says_211 rfl ?_
                          have hz : saysK Z q k = ((lossT Z.1 i), Z) := by
                            clear hQ
                            clear cv hM hS ok
                            have h01 := (okS.th hi).2.2.2
                            have hcl := nI_clamp (show i < 2 ^ 31 by omega)
                            have hin := i_ok hi (show nT Z.1 < 2 ^ 31 by omega)
                            have hone := one_all (q := q) (okS.th hi).1
                            have hsf := sfar_c (c := Z.1 12 i)
                            rw [← hp] at hin hcl
                            grind [saysK, cif, saysI, inZ, humT, lossT, may_1]
                          exact hQ _ _ ⟨by rw [hz], by rw [hz]; exact cv⟩
                        · refine j_iload 0 dX11_says_123 rfl ?_
                          refine j_if_ne (tgt := 135) dX11_says_125 rfl (fun c161 => ?_) (fun c161 => ?_)
                          · refine j_iload_n 5 dX11_says_135 rfl ?_
                            by_cases c163 : q = 0
                            · refine j_tableIn (tgt := 180) dX11_says_136 (by rw [c163]; decide) (by rw [c163]; decide) (off := 44) (by rw [c163]; decide) rfl ?_
                              refine j_aload_n 3 dX11_says_180 rfl ?_
                              refine j_getr (q := 4) dX11_says_181 fX11_35 (shM hM sgM_0) rfl (rfM hM rfM_0_12) ?_
                              refine j_iload_n 2 dX11_says_184 rfl ?_
                              refine j_ialdN i dX11_says_185 (shM hM sgM_4) (by omega) (by omega) ?_
                              refine j_topi (Z.1 12 i) (mr_arT hS (k := 2) (by omega) (by decide)) ?_
                              refine j_iret dX11_says_186 rfl ?_
                              have hz : saysK Z q k = ((Z.1 12 i), Z) := by
                                clear hQ
                                clear cv hM hS ok
                                have h01 := (okS.th hi).2.2.2
                                have hcl := nI_clamp (show i < 2 ^ 31 by omega)
                                have hin := i_ok hi (show nT Z.1 < 2 ^ 31 by omega)
                                have hone := one_all (q := q) (okS.th hi).1
                                have hsf := sfar_c (c := Z.1 12 i)
                                rw [← hp] at hin hcl
                                grind [saysK, cif, saysI, inZ, humT, lossT, may_1]
                              exact hQ _ _ ⟨by rw [hz], by rw [hz]; exact cv⟩
                            by_cases c164 : q = 1
                            · refine j_tableIn (tgt := 206) dX11_says_136 (by rw [c164]; decide) (by rw [c164]; decide) (off := 70) (by rw [c164]; decide) rfl ?_
                              refine j_aload_n 3 dX11_says_206 rfl ?_
                              refine j_iload_n 2 dX11_says_207 rfl ?_
                              refine j_callV (kc := 0) (ks := 0) (a := 0) (b := 0) (d' := d) (As := [.int (nI i)]) dX11_says_208 kX11_141 rfl (shM hM sgM_0) (by omega) rfl rfl rfl (Nat.le_of_ble_eq_true rfl) (Nat.le_of_ble_eq_true rfl) (T_X11_loss hM hS okS i (by omega)) (kk_p ?_)
                              refine j_iret dX11_says_211 rfl ?_
                              have hz : saysK Z q k = ((lossT Z.1 i), Z) := by
                                clear hQ
                                clear cv hM hS ok
                                have h01 := (okS.th hi).2.2.2
                                have hcl := nI_clamp (show i < 2 ^ 31 by omega)
                                have hin := i_ok hi (show nT Z.1 < 2 ^ 31 by omega)
                                have hone := one_all (q := q) (okS.th hi).1
                                have hsf := sfar_c (c := Z.1 12 i)
                                rw [← hp] at hin hcl
                                grind [saysK, cif, saysI, inZ, humT, lossT, may_1]
                              exact hQ _ _ ⟨by rw [hz], by rw [hz]; exact cv⟩
                            by_cases c165 : q = 2
                            · refine j_tableIn (tgt := 187) dX11_says_136 (by rw [c165]; decide) (by rw [c165]; decide) (off := 51) (by rw [c165]; decide) rfl ?_
                              refine j_aload_n 3 dX11_says_187 rfl ?_
                              refine j_getr (q := 5) dX11_says_188 fX11_38 (shM hM sgM_0) rfl (rfM hM rfM_0_13) ?_
                              refine j_iload_n 2 dX11_says_191 rfl ?_
                              refine j_ialdN i dX11_says_192 (shM hM sgM_5) (by omega) (by omega) ?_
                              refine j_topi (Z.1 13 i) (mr_arT hS (k := 3) (by omega) (by decide)) ?_
                              refine j_iret dX11_says_193 rfl ?_
                              have hz : saysK Z q k = ((Z.1 13 i), Z) := by
                                clear hQ
                                clear cv hM hS ok
                                have h01 := (okS.th hi).2.2.2
                                have hcl := nI_clamp (show i < 2 ^ 31 by omega)
                                have hin := i_ok hi (show nT Z.1 < 2 ^ 31 by omega)
                                have hone := one_all (q := q) (okS.th hi).1
                                have hsf := sfar_c (c := Z.1 12 i)
                                rw [← hp] at hin hcl
                                grind [saysK, cif, saysI, inZ, humT, lossT, may_1]
                              exact hQ _ _ ⟨by rw [hz], by rw [hz]; exact cv⟩
                            by_cases c166 : q = 3
                            · refine j_tableIn (tgt := 206) dX11_says_136 (by rw [c166]; decide) (by rw [c166]; decide) (off := 70) (by rw [c166]; decide) rfl ?_
                              refine j_aload_n 3 dX11_says_206 rfl ?_
                              refine j_iload_n 2 dX11_says_207 rfl ?_
                              refine j_callV (kc := 0) (ks := 0) (a := 0) (b := 0) (d' := d) (As := [.int (nI i)]) dX11_says_208 kX11_141 rfl (shM hM sgM_0) (by omega) rfl rfl rfl (Nat.le_of_ble_eq_true rfl) (Nat.le_of_ble_eq_true rfl) (T_X11_loss hM hS okS i (by omega)) (kk_p ?_)
                              refine j_iret dX11_says_211 rfl ?_
                              have hz : saysK Z q k = ((lossT Z.1 i), Z) := by
                                clear hQ
                                clear cv hM hS ok
                                have h01 := (okS.th hi).2.2.2
                                have hcl := nI_clamp (show i < 2 ^ 31 by omega)
                                have hin := i_ok hi (show nT Z.1 < 2 ^ 31 by omega)
                                have hone := one_all (q := q) (okS.th hi).1
                                have hsf := sfar_c (c := Z.1 12 i)
                                rw [← hp] at hin hcl
                                grind [saysK, cif, saysI, inZ, humT, lossT, may_1]
                              exact hQ _ _ ⟨by rw [hz], by rw [hz]; exact cv⟩
                            by_cases c167 : q = 4
                            · refine j_tableIn (tgt := 194) dX11_says_136 (by rw [c167]; decide) (by rw [c167]; decide) (off := 58) (by rw [c167]; decide) rfl ?_
                              refine j_aload_n 3 dX11_says_194 rfl ?_
                              refine j_iload_n 2 dX11_says_195 rfl ?_
                              refine j_aload_n 3 dX11_says_196 rfl ?_
                              refine j_getr (q := 4) dX11_says_197 fX11_35 (shM hM sgM_0) rfl (rfM hM rfM_0_12) ?_
                              refine j_iload_n 2 dX11_says_200 rfl ?_
                              refine j_ialdN i dX11_says_201 (shM hM sgM_4) (by omega) (by omega) ?_
                              refine j_topi (Z.1 12 i) (mr_arT hS (k := 2) (by omega) (by decide)) ?_
                              refine j_callV (kc := 0) (ks := 0) (a := 0) (b := 0) (d' := (d + 2)) (As := [.int (nI i), .int (Z.1 12 i)]) dX11_says_202 kX11_137 rfl (shM hM sgM_0) (by omega) rfl rfl rfl (Nat.le_of_ble_eq_true rfl) (Nat.le_of_ble_eq_true rfl) (T_X11_hums hM hS okS i (by omega) (Z.1 12 i) (isC_P okS (okS.th hi).2.2.1)) (kk_p ?_)
                              refine j_iret dX11_says_205 rfl ?_
                              have hz : saysK Z q k = ((humT Z.1 i (Z.1 12 i)), Z) := by
                                clear hQ
                                clear cv hM hS ok
                                have h01 := (okS.th hi).2.2.2
                                have hcl := nI_clamp (show i < 2 ^ 31 by omega)
                                have hin := i_ok hi (show nT Z.1 < 2 ^ 31 by omega)
                                have hone := one_all (q := q) (okS.th hi).1
                                have hsf := sfar_c (c := Z.1 12 i)
                                rw [← hp] at hin hcl
                                grind [saysK, cif, saysI, inZ, humT, lossT, may_1]
                              exact hQ _ _ ⟨by rw [hz], by rw [hz]; exact cv⟩
                            by_cases c168 : q = 5
                            · refine j_tableIn (tgt := 206) dX11_says_136 (by rw [c168]; decide) (by rw [c168]; decide) (off := 70) (by rw [c168]; decide) rfl ?_
                              refine j_aload_n 3 dX11_says_206 rfl ?_
                              refine j_iload_n 2 dX11_says_207 rfl ?_
                              refine j_callV (kc := 0) (ks := 0) (a := 0) (b := 0) (d' := d) (As := [.int (nI i)]) dX11_says_208 kX11_141 rfl (shM hM sgM_0) (by omega) rfl rfl rfl (Nat.le_of_ble_eq_true rfl) (Nat.le_of_ble_eq_true rfl) (T_X11_loss hM hS okS i (by omega)) (kk_p ?_)
                              refine j_iret dX11_says_211 rfl ?_
                              have hz : saysK Z q k = ((lossT Z.1 i), Z) := by
                                clear hQ
                                clear cv hM hS ok
                                have h01 := (okS.th hi).2.2.2
                                have hcl := nI_clamp (show i < 2 ^ 31 by omega)
                                have hin := i_ok hi (show nT Z.1 < 2 ^ 31 by omega)
                                have hone := one_all (q := q) (okS.th hi).1
                                have hsf := sfar_c (c := Z.1 12 i)
                                rw [← hp] at hin hcl
                                grind [saysK, cif, saysI, inZ, humT, lossT, may_1]
                              exact hQ _ _ ⟨by rw [hz], by rw [hz]; exact cv⟩
                            by_cases c169 : q = 6
                            · refine j_tableIn (tgt := 194) dX11_says_136 (by rw [c169]; decide) (by rw [c169]; decide) (off := 58) (by rw [c169]; decide) rfl ?_
                              refine j_aload_n 3 dX11_says_194 rfl ?_
                              refine j_iload_n 2 dX11_says_195 rfl ?_
                              refine j_aload_n 3 dX11_says_196 rfl ?_
                              refine j_getr (q := 4) dX11_says_197 fX11_35 (shM hM sgM_0) rfl (rfM hM rfM_0_12) ?_
                              refine j_iload_n 2 dX11_says_200 rfl ?_
                              refine j_ialdN i dX11_says_201 (shM hM sgM_4) (by omega) (by omega) ?_
                              refine j_topi (Z.1 12 i) (mr_arT hS (k := 2) (by omega) (by decide)) ?_
                              refine j_callV (kc := 0) (ks := 0) (a := 0) (b := 0) (d' := (d + 2)) (As := [.int (nI i), .int (Z.1 12 i)]) dX11_says_202 kX11_137 rfl (shM hM sgM_0) (by omega) rfl rfl rfl (Nat.le_of_ble_eq_true rfl) (Nat.le_of_ble_eq_true rfl) (T_X11_hums hM hS okS i (by omega) (Z.1 12 i) (isC_P okS (okS.th hi).2.2.1)) (kk_p ?_)
                              refine j_iret dX11_says_205 rfl ?_
                              have hz : saysK Z q k = ((humT Z.1 i (Z.1 12 i)), Z) := by
                                clear hQ
                                clear cv hM hS ok
                                have h01 := (okS.th hi).2.2.2
                                have hcl := nI_clamp (show i < 2 ^ 31 by omega)
                                have hin := i_ok hi (show nT Z.1 < 2 ^ 31 by omega)
                                have hone := one_all (q := q) (okS.th hi).1
                                have hsf := sfar_c (c := Z.1 12 i)
                                rw [← hp] at hin hcl
                                grind [saysK, cif, saysI, inZ, humT, lossT, may_1]
                              exact hQ _ _ ⟨by rw [hz], by rw [hz]; exact cv⟩
                            refine j_tableOut (tgt := 206) dX11_says_136 (by have q0 := lv_neT c163 (a := 0) (by decide); have q1 := lv_neT c164 (a := 1) (by decide); have q2 := lv_neT c165 (a := 2) (by decide); have q3 := lv_neT c166 (a := 3) (by decide); have q4 := lv_neT c167 (a := 4) (by decide); have q5 := lv_neT c168 (a := 5) (by decide); have q6 := lv_neT c169 (a := 6) (by decide); omega) rfl ?_
                            refine j_aload_n 3 dX11_says_206 rfl ?_
                            refine j_iload_n 2 dX11_says_207 rfl ?_
                            refine j_callV (kc := 0) (ks := 0) (a := 0) (b := 0) (d' := d) (As := [.int (nI i)]) dX11_says_208 kX11_141 rfl (shM hM sgM_0) (by omega) rfl rfl rfl (Nat.le_of_ble_eq_true rfl) (Nat.le_of_ble_eq_true rfl) (T_X11_loss hM hS okS i (by omega)) (kk_p ?_)
                            refine j_iret dX11_says_211 rfl ?_
                            have hz : saysK Z q k = ((lossT Z.1 i), Z) := by
                              clear hQ
                              clear cv hM hS ok
                              have h01 := (okS.th hi).2.2.2
                              have hcl := nI_clamp (show i < 2 ^ 31 by omega)
                              have hin := i_ok hi (show nT Z.1 < 2 ^ 31 by omega)
                              have hone := one_all (q := q) (okS.th hi).1
                              have hsf := sfar_c (c := Z.1 12 i)
                              rw [← hp] at hin hcl
                              grind [saysK, cif, saysI, inZ, humT, lossT, may_1]
                            exact hQ _ _ ⟨by rw [hz], by rw [hz]; exact cv⟩
                          · exact absurd c161 (by decide)
            · refine j_iload 0 dX11_says_77 rfl ?_
              refine j_iconst 3 dX11_says_79 ic_3 ?_
              refine j_icmp_eq (tgt := 106) dX11_says_80 rfl (fun c170 => ?_) (fun c170 => ?_)
              · refine j_iconst 1 dX11_says_106 ic_1 ?_
                refine j_goto (tgt := 111) dX11_says_107 rfl ?_
                refine j_istore (L' := [(5, .int 1), (4, .int (Z.1 10 i)), (3, .int (nI i)), (0, .ref 0), (1, .int (nI k)), (2, .int q)]) dX11_says_111 (by decide) rfl ?_
                refine j_iload_n 5 dX11_says_113 rfl ?_
                refine j_if_eq (tgt := 135) dX11_says_114 rfl (fun c171 => ?_) (fun c171 => ?_)
                · refine j_iload_n 5 dX11_says_135 rfl ?_
                  by_cases c173 : q = 0
                  · refine j_tableIn (tgt := 180) dX11_says_136 (by rw [c173]; decide) (by rw [c173]; decide) (off := 44) (by rw [c173]; decide) rfl ?_
                    refine j_aload_n 3 dX11_says_180 rfl ?_
                    refine j_getr (q := 4) dX11_says_181 fX11_35 (shM hM sgM_0) rfl (rfM hM rfM_0_12) ?_
                    refine j_iload_n 2 dX11_says_184 rfl ?_
                    refine j_ialdN i dX11_says_185 (shM hM sgM_4) (by omega) (by omega) ?_
                    refine j_topi (Z.1 12 i) (mr_arT hS (k := 2) (by omega) (by decide)) ?_
                    refine j_iret dX11_says_186 rfl ?_
                    have hz : saysK Z q k = ((Z.1 12 i), Z) := by
                      clear hQ
                      clear cv hM hS ok
                      have h01 := (okS.th hi).2.2.2
                      have hcl := nI_clamp (show i < 2 ^ 31 by omega)
                      have hin := i_ok hi (show nT Z.1 < 2 ^ 31 by omega)
                      have hone := one_all (q := q) (okS.th hi).1
                      have hsf := sfar_c (c := Z.1 12 i)
                      rw [← hp] at hin hcl
                      grind [saysK, cif, saysI, inZ, humT, lossT, may_1]
                    exact hQ _ _ ⟨by rw [hz], by rw [hz]; exact cv⟩
                  by_cases c174 : q = 1
                  · refine j_tableIn (tgt := 206) dX11_says_136 (by rw [c174]; decide) (by rw [c174]; decide) (off := 70) (by rw [c174]; decide) rfl ?_
                    refine j_aload_n 3 dX11_says_206 rfl ?_
                    refine j_iload_n 2 dX11_says_207 rfl ?_
                    refine j_callV (kc := 0) (ks := 0) (a := 0) (b := 0) (d' := d) (As := [.int (nI i)]) dX11_says_208 kX11_141 rfl (shM hM sgM_0) (by omega) rfl rfl rfl (Nat.le_of_ble_eq_true rfl) (Nat.le_of_ble_eq_true rfl) (T_X11_loss hM hS okS i (by omega)) (kk_p ?_)
                    refine j_iret dX11_says_211 rfl ?_
                    have hz : saysK Z q k = ((lossT Z.1 i), Z) := by
                      clear hQ
                      clear cv hM hS ok
                      have h01 := (okS.th hi).2.2.2
                      have hcl := nI_clamp (show i < 2 ^ 31 by omega)
                      have hin := i_ok hi (show nT Z.1 < 2 ^ 31 by omega)
                      have hone := one_all (q := q) (okS.th hi).1
                      have hsf := sfar_c (c := Z.1 12 i)
                      rw [← hp] at hin hcl
                      grind [saysK, cif, saysI, inZ, humT, lossT, may_1]
                    exact hQ _ _ ⟨by rw [hz], by rw [hz]; exact cv⟩
                  by_cases c175 : q = 2
                  · refine j_tableIn (tgt := 187) dX11_says_136 (by rw [c175]; decide) (by rw [c175]; decide) (off := 51) (by rw [c175]; decide) rfl ?_
                    refine j_aload_n 3 dX11_says_187 rfl ?_
                    refine j_getr (q := 5) dX11_says_188 fX11_38 (shM hM sgM_0) rfl (rfM hM rfM_0_13) ?_
                    refine j_iload_n 2 dX11_says_191 rfl ?_
                    refine j_ialdN i dX11_says_192 (shM hM sgM_5) (by omega) (by omega) ?_
                    refine j_topi (Z.1 13 i) (mr_arT hS (k := 3) (by omega) (by decide)) ?_
                    refine j_iret dX11_says_193 rfl ?_
                    have hz : saysK Z q k = ((Z.1 13 i), Z) := by
                      clear hQ
                      clear cv hM hS ok
                      have h01 := (okS.th hi).2.2.2
                      have hcl := nI_clamp (show i < 2 ^ 31 by omega)
                      have hin := i_ok hi (show nT Z.1 < 2 ^ 31 by omega)
                      have hone := one_all (q := q) (okS.th hi).1
                      have hsf := sfar_c (c := Z.1 12 i)
                      rw [← hp] at hin hcl
                      grind [saysK, cif, saysI, inZ, humT, lossT, may_1]
                    exact hQ _ _ ⟨by rw [hz], by rw [hz]; exact cv⟩
                  by_cases c176 : q = 3
                  · refine j_tableIn (tgt := 206) dX11_says_136 (by rw [c176]; decide) (by rw [c176]; decide) (off := 70) (by rw [c176]; decide) rfl ?_
                    refine j_aload_n 3 dX11_says_206 rfl ?_
                    refine j_iload_n 2 dX11_says_207 rfl ?_
                    refine j_callV (kc := 0) (ks := 0) (a := 0) (b := 0) (d' := d) (As := [.int (nI i)]) dX11_says_208 kX11_141 rfl (shM hM sgM_0) (by omega) rfl rfl rfl (Nat.le_of_ble_eq_true rfl) (Nat.le_of_ble_eq_true rfl) (T_X11_loss hM hS okS i (by omega)) (kk_p ?_)
                    refine j_iret dX11_says_211 rfl ?_
                    have hz : saysK Z q k = ((lossT Z.1 i), Z) := by
                      clear hQ
                      clear cv hM hS ok
                      have h01 := (okS.th hi).2.2.2
                      have hcl := nI_clamp (show i < 2 ^ 31 by omega)
                      have hin := i_ok hi (show nT Z.1 < 2 ^ 31 by omega)
                      have hone := one_all (q := q) (okS.th hi).1
                      have hsf := sfar_c (c := Z.1 12 i)
                      rw [← hp] at hin hcl
                      grind [saysK, cif, saysI, inZ, humT, lossT, may_1]
                    exact hQ _ _ ⟨by rw [hz], by rw [hz]; exact cv⟩
                  by_cases c177 : q = 4
                  · refine j_tableIn (tgt := 194) dX11_says_136 (by rw [c177]; decide) (by rw [c177]; decide) (off := 58) (by rw [c177]; decide) rfl ?_
                    refine j_aload_n 3 dX11_says_194 rfl ?_
                    refine j_iload_n 2 dX11_says_195 rfl ?_
                    refine j_aload_n 3 dX11_says_196 rfl ?_
                    refine j_getr (q := 4) dX11_says_197 fX11_35 (shM hM sgM_0) rfl (rfM hM rfM_0_12) ?_
                    refine j_iload_n 2 dX11_says_200 rfl ?_
                    refine j_ialdN i dX11_says_201 (shM hM sgM_4) (by omega) (by omega) ?_
                    refine j_topi (Z.1 12 i) (mr_arT hS (k := 2) (by omega) (by decide)) ?_
                    refine j_callV (kc := 0) (ks := 0) (a := 0) (b := 0) (d' := (d + 2)) (As := [.int (nI i), .int (Z.1 12 i)]) dX11_says_202 kX11_137 rfl (shM hM sgM_0) (by omega) rfl rfl rfl (Nat.le_of_ble_eq_true rfl) (Nat.le_of_ble_eq_true rfl) (T_X11_hums hM hS okS i (by omega) (Z.1 12 i) (isC_P okS (okS.th hi).2.2.1)) (kk_p ?_)
                    refine j_iret dX11_says_205 rfl ?_
                    have hz : saysK Z q k = ((humT Z.1 i (Z.1 12 i)), Z) := by
                      clear hQ
                      clear cv hM hS ok
                      have h01 := (okS.th hi).2.2.2
                      have hcl := nI_clamp (show i < 2 ^ 31 by omega)
                      have hin := i_ok hi (show nT Z.1 < 2 ^ 31 by omega)
                      have hone := one_all (q := q) (okS.th hi).1
                      have hsf := sfar_c (c := Z.1 12 i)
                      rw [← hp] at hin hcl
                      grind [saysK, cif, saysI, inZ, humT, lossT, may_1]
                    exact hQ _ _ ⟨by rw [hz], by rw [hz]; exact cv⟩
                  by_cases c178 : q = 5
                  · refine j_tableIn (tgt := 206) dX11_says_136 (by rw [c178]; decide) (by rw [c178]; decide) (off := 70) (by rw [c178]; decide) rfl ?_
                    refine j_aload_n 3 dX11_says_206 rfl ?_
                    refine j_iload_n 2 dX11_says_207 rfl ?_
                    refine j_callV (kc := 0) (ks := 0) (a := 0) (b := 0) (d' := d) (As := [.int (nI i)]) dX11_says_208 kX11_141 rfl (shM hM sgM_0) (by omega) rfl rfl rfl (Nat.le_of_ble_eq_true rfl) (Nat.le_of_ble_eq_true rfl) (T_X11_loss hM hS okS i (by omega)) (kk_p ?_)
                    refine j_iret dX11_says_211 rfl ?_
                    have hz : saysK Z q k = ((lossT Z.1 i), Z) := by
                      clear hQ
                      clear cv hM hS ok
                      have h01 := (okS.th hi).2.2.2
                      have hcl := nI_clamp (show i < 2 ^ 31 by omega)
                      have hin := i_ok hi (show nT Z.1 < 2 ^ 31 by omega)
                      have hone := one_all (q := q) (okS.th hi).1
                      have hsf := sfar_c (c := Z.1 12 i)
                      rw [← hp] at hin hcl
                      grind [saysK, cif, saysI, inZ, humT, lossT, may_1]
                    exact hQ _ _ ⟨by rw [hz], by rw [hz]; exact cv⟩
                  by_cases c179 : q = 6
                  · refine j_tableIn (tgt := 194) dX11_says_136 (by rw [c179]; decide) (by rw [c179]; decide) (off := 58) (by rw [c179]; decide) rfl ?_
                    refine j_aload_n 3 dX11_says_194 rfl ?_
                    refine j_iload_n 2 dX11_says_195 rfl ?_
                    refine j_aload_n 3 dX11_says_196 rfl ?_
                    refine j_getr (q := 4) dX11_says_197 fX11_35 (shM hM sgM_0) rfl (rfM hM rfM_0_12) ?_
                    refine j_iload_n 2 dX11_says_200 rfl ?_
                    refine j_ialdN i dX11_says_201 (shM hM sgM_4) (by omega) (by omega) ?_
                    refine j_topi (Z.1 12 i) (mr_arT hS (k := 2) (by omega) (by decide)) ?_
                    refine j_callV (kc := 0) (ks := 0) (a := 0) (b := 0) (d' := (d + 2)) (As := [.int (nI i), .int (Z.1 12 i)]) dX11_says_202 kX11_137 rfl (shM hM sgM_0) (by omega) rfl rfl rfl (Nat.le_of_ble_eq_true rfl) (Nat.le_of_ble_eq_true rfl) (T_X11_hums hM hS okS i (by omega) (Z.1 12 i) (isC_P okS (okS.th hi).2.2.1)) (kk_p ?_)
                    refine j_iret dX11_says_205 rfl ?_
                    have hz : saysK Z q k = ((humT Z.1 i (Z.1 12 i)), Z) := by
                      clear hQ
                      clear cv hM hS ok
                      have h01 := (okS.th hi).2.2.2
                      have hcl := nI_clamp (show i < 2 ^ 31 by omega)
                      have hin := i_ok hi (show nT Z.1 < 2 ^ 31 by omega)
                      have hone := one_all (q := q) (okS.th hi).1
                      have hsf := sfar_c (c := Z.1 12 i)
                      rw [← hp] at hin hcl
                      grind [saysK, cif, saysI, inZ, humT, lossT, may_1]
                    exact hQ _ _ ⟨by rw [hz], by rw [hz]; exact cv⟩
                  refine j_tableOut (tgt := 206) dX11_says_136 (by have q0 := lv_neT c173 (a := 0) (by decide); have q1 := lv_neT c174 (a := 1) (by decide); have q2 := lv_neT c175 (a := 2) (by decide); have q3 := lv_neT c176 (a := 3) (by decide); have q4 := lv_neT c177 (a := 4) (by decide); have q5 := lv_neT c178 (a := 5) (by decide); have q6 := lv_neT c179 (a := 6) (by decide); omega) rfl ?_
                  refine j_aload_n 3 dX11_says_206 rfl ?_
                  refine j_iload_n 2 dX11_says_207 rfl ?_
                  refine j_callV (kc := 0) (ks := 0) (a := 0) (b := 0) (d' := d) (As := [.int (nI i)]) dX11_says_208 kX11_141 rfl (shM hM sgM_0) (by omega) rfl rfl rfl (Nat.le_of_ble_eq_true rfl) (Nat.le_of_ble_eq_true rfl) (T_X11_loss hM hS okS i (by omega)) (kk_p ?_)
                  refine j_iret dX11_says_211 rfl ?_
                  have hz : saysK Z q k = ((lossT Z.1 i), Z) := by
                    clear hQ
                    clear cv hM hS ok
                    have h01 := (okS.th hi).2.2.2
                    have hcl := nI_clamp (show i < 2 ^ 31 by omega)
                    have hin := i_ok hi (show nT Z.1 < 2 ^ 31 by omega)
                    have hone := one_all (q := q) (okS.th hi).1
                    have hsf := sfar_c (c := Z.1 12 i)
                    rw [← hp] at hin hcl
                    grind [saysK, cif, saysI, inZ, humT, lossT, may_1]
                  exact hQ _ _ ⟨by rw [hz], by rw [hz]; exact cv⟩
                · refine j_iload_n 5 dX11_says_117 rfl ?_
                  refine j_iload 1 dX11_says_118 rfl ?_
                  refine j_icmp_eq (tgt := 135) dX11_says_120 rfl (fun c180 => ?_) (fun c180 => ?_)
                  · refine j_iload_n 5 dX11_says_135 rfl ?_
                    by_cases c182 : q = 0
                    · refine j_tableIn (tgt := 180) dX11_says_136 (by rw [c182]; decide) (by rw [c182]; decide) (off := 44) (by rw [c182]; decide) rfl ?_
                      refine j_aload_n 3 dX11_says_180 rfl ?_
                      refine j_getr (q := 4) dX11_says_181 fX11_35 (shM hM sgM_0) rfl (rfM hM rfM_0_12) ?_
                      refine j_iload_n 2 dX11_says_184 rfl ?_
                      refine j_ialdN i dX11_says_185 (shM hM sgM_4) (by omega) (by omega) ?_
                      refine j_topi (Z.1 12 i) (mr_arT hS (k := 2) (by omega) (by decide)) ?_
                      refine j_iret dX11_says_186 rfl ?_
                      have hz : saysK Z q k = ((Z.1 12 i), Z) := by
                        clear hQ
                        clear cv hM hS ok
                        have h01 := (okS.th hi).2.2.2
                        have hcl := nI_clamp (show i < 2 ^ 31 by omega)
                        have hin := i_ok hi (show nT Z.1 < 2 ^ 31 by omega)
                        have hone := one_all (q := q) (okS.th hi).1
                        have hsf := sfar_c (c := Z.1 12 i)
                        rw [← hp] at hin hcl
                        grind [saysK, cif, saysI, inZ, humT, lossT, may_1]
                      exact hQ _ _ ⟨by rw [hz], by rw [hz]; exact cv⟩
                    by_cases c183 : q = 1
                    · refine j_tableIn (tgt := 206) dX11_says_136 (by rw [c183]; decide) (by rw [c183]; decide) (off := 70) (by rw [c183]; decide) rfl ?_
                      refine j_aload_n 3 dX11_says_206 rfl ?_
                      refine j_iload_n 2 dX11_says_207 rfl ?_
                      refine j_callV (kc := 0) (ks := 0) (a := 0) (b := 0) (d' := d) (As := [.int (nI i)]) dX11_says_208 kX11_141 rfl (shM hM sgM_0) (by omega) rfl rfl rfl (Nat.le_of_ble_eq_true rfl) (Nat.le_of_ble_eq_true rfl) (T_X11_loss hM hS okS i (by omega)) (kk_p ?_)
                      refine j_iret dX11_says_211 rfl ?_
                      have hz : saysK Z q k = ((lossT Z.1 i), Z) := by
                        clear hQ
                        clear cv hM hS ok
                        have h01 := (okS.th hi).2.2.2
                        have hcl := nI_clamp (show i < 2 ^ 31 by omega)
                        have hin := i_ok hi (show nT Z.1 < 2 ^ 31 by omega)
                        have hone := one_all (q := q) (okS.th hi).1
                        have hsf := sfar_c (c := Z.1 12 i)
                        rw [← hp] at hin hcl
                        grind [saysK, cif, saysI, inZ, humT, lossT, may_1]
                      exact hQ _ _ ⟨by rw [hz], by rw [hz]; exact cv⟩
                    by_cases c184 : q = 2
                    · refine j_tableIn (tgt := 187) dX11_says_136 (by rw [c184]; decide) (by rw [c184]; decide) (off := 51) (by rw [c184]; decide) rfl ?_
                      refine j_aload_n 3 dX11_says_187 rfl ?_
                      refine j_getr (q := 5) dX11_says_188 fX11_38 (shM hM sgM_0) rfl (rfM hM rfM_0_13) ?_
                      refine j_iload_n 2 dX11_says_191 rfl ?_
                      refine j_ialdN i dX11_says_192 (shM hM sgM_5) (by omega) (by omega) ?_
                      refine j_topi (Z.1 13 i) (mr_arT hS (k := 3) (by omega) (by decide)) ?_
                      refine j_iret dX11_says_193 rfl ?_
                      have hz : saysK Z q k = ((Z.1 13 i), Z) := by
                        clear hQ
                        clear cv hM hS ok
                        have h01 := (okS.th hi).2.2.2
                        have hcl := nI_clamp (show i < 2 ^ 31 by omega)
                        have hin := i_ok hi (show nT Z.1 < 2 ^ 31 by omega)
                        have hone := one_all (q := q) (okS.th hi).1
                        have hsf := sfar_c (c := Z.1 12 i)
                        rw [← hp] at hin hcl
                        grind [saysK, cif, saysI, inZ, humT, lossT, may_1]
                      exact hQ _ _ ⟨by rw [hz], by rw [hz]; exact cv⟩
                    by_cases c185 : q = 3
                    · refine j_tableIn (tgt := 206) dX11_says_136 (by rw [c185]; decide) (by rw [c185]; decide) (off := 70) (by rw [c185]; decide) rfl ?_
                      refine j_aload_n 3 dX11_says_206 rfl ?_
                      refine j_iload_n 2 dX11_says_207 rfl ?_
                      refine j_callV (kc := 0) (ks := 0) (a := 0) (b := 0) (d' := d) (As := [.int (nI i)]) dX11_says_208 kX11_141 rfl (shM hM sgM_0) (by omega) rfl rfl rfl (Nat.le_of_ble_eq_true rfl) (Nat.le_of_ble_eq_true rfl) (T_X11_loss hM hS okS i (by omega)) (kk_p ?_)
                      refine j_iret dX11_says_211 rfl ?_
                      have hz : saysK Z q k = ((lossT Z.1 i), Z) := by
                        clear hQ
                        clear cv hM hS ok
                        have h01 := (okS.th hi).2.2.2
                        have hcl := nI_clamp (show i < 2 ^ 31 by omega)
                        have hin := i_ok hi (show nT Z.1 < 2 ^ 31 by omega)
                        have hone := one_all (q := q) (okS.th hi).1
                        have hsf := sfar_c (c := Z.1 12 i)
                        rw [← hp] at hin hcl
                        grind [saysK, cif, saysI, inZ, humT, lossT, may_1]
                      exact hQ _ _ ⟨by rw [hz], by rw [hz]; exact cv⟩
                    by_cases c186 : q = 4
                    · refine j_tableIn (tgt := 194) dX11_says_136 (by rw [c186]; decide) (by rw [c186]; decide) (off := 58) (by rw [c186]; decide) rfl ?_
                      refine j_aload_n 3 dX11_says_194 rfl ?_
                      refine j_iload_n 2 dX11_says_195 rfl ?_
                      refine j_aload_n 3 dX11_says_196 rfl ?_
                      refine j_getr (q := 4) dX11_says_197 fX11_35 (shM hM sgM_0) rfl (rfM hM rfM_0_12) ?_
                      refine j_iload_n 2 dX11_says_200 rfl ?_
                      refine j_ialdN i dX11_says_201 (shM hM sgM_4) (by omega) (by omega) ?_
                      refine j_topi (Z.1 12 i) (mr_arT hS (k := 2) (by omega) (by decide)) ?_
                      refine j_callV (kc := 0) (ks := 0) (a := 0) (b := 0) (d' := (d + 2)) (As := [.int (nI i), .int (Z.1 12 i)]) dX11_says_202 kX11_137 rfl (shM hM sgM_0) (by omega) rfl rfl rfl (Nat.le_of_ble_eq_true rfl) (Nat.le_of_ble_eq_true rfl) (T_X11_hums hM hS okS i (by omega) (Z.1 12 i) (isC_P okS (okS.th hi).2.2.1)) (kk_p ?_)
                      refine j_iret dX11_says_205 rfl ?_
                      have hz : saysK Z q k = ((humT Z.1 i (Z.1 12 i)), Z) := by
                        clear hQ
                        clear cv hM hS ok
                        have h01 := (okS.th hi).2.2.2
                        have hcl := nI_clamp (show i < 2 ^ 31 by omega)
                        have hin := i_ok hi (show nT Z.1 < 2 ^ 31 by omega)
                        have hone := one_all (q := q) (okS.th hi).1
                        have hsf := sfar_c (c := Z.1 12 i)
                        rw [← hp] at hin hcl
                        grind [saysK, cif, saysI, inZ, humT, lossT, may_1]
                      exact hQ _ _ ⟨by rw [hz], by rw [hz]; exact cv⟩
                    by_cases c187 : q = 5
                    · refine j_tableIn (tgt := 206) dX11_says_136 (by rw [c187]; decide) (by rw [c187]; decide) (off := 70) (by rw [c187]; decide) rfl ?_
                      refine j_aload_n 3 dX11_says_206 rfl ?_
                      refine j_iload_n 2 dX11_says_207 rfl ?_
                      refine j_callV (kc := 0) (ks := 0) (a := 0) (b := 0) (d' := d) (As := [.int (nI i)]) dX11_says_208 kX11_141 rfl (shM hM sgM_0) (by omega) rfl rfl rfl (Nat.le_of_ble_eq_true rfl) (Nat.le_of_ble_eq_true rfl) (T_X11_loss hM hS okS i (by omega)) (kk_p ?_)
                      refine j_iret dX11_says_211 rfl ?_
                      have hz : saysK Z q k = ((lossT Z.1 i), Z) := by
                        clear hQ
                        clear cv hM hS ok
                        have h01 := (okS.th hi).2.2.2
                        have hcl := nI_clamp (show i < 2 ^ 31 by omega)
                        have hin := i_ok hi (show nT Z.1 < 2 ^ 31 by omega)
                        have hone := one_all (q := q) (okS.th hi).1
                        have hsf := sfar_c (c := Z.1 12 i)
                        rw [← hp] at hin hcl
                        grind [saysK, cif, saysI, inZ, humT, lossT, may_1]
                      exact hQ _ _ ⟨by rw [hz], by rw [hz]; exact cv⟩
                    by_cases c188 : q = 6
                    · refine j_tableIn (tgt := 194) dX11_says_136 (by rw [c188]; decide) (by rw [c188]; decide) (off := 58) (by rw [c188]; decide) rfl ?_
                      refine j_aload_n 3 dX11_says_194 rfl ?_
                      refine j_iload_n 2 dX11_says_195 rfl ?_
                      refine j_aload_n 3 dX11_says_196 rfl ?_
                      refine j_getr (q := 4) dX11_says_197 fX11_35 (shM hM sgM_0) rfl (rfM hM rfM_0_12) ?_
                      refine j_iload_n 2 dX11_says_200 rfl ?_
                      refine j_ialdN i dX11_says_201 (shM hM sgM_4) (by omega) (by omega) ?_
                      refine j_topi (Z.1 12 i) (mr_arT hS (k := 2) (by omega) (by decide)) ?_
                      refine j_callV (kc := 0) (ks := 0) (a := 0) (b := 0) (d' := (d + 2)) (As := [.int (nI i), .int (Z.1 12 i)]) dX11_says_202 kX11_137 rfl (shM hM sgM_0) (by omega) rfl rfl rfl (Nat.le_of_ble_eq_true rfl) (Nat.le_of_ble_eq_true rfl) (T_X11_hums hM hS okS i (by omega) (Z.1 12 i) (isC_P okS (okS.th hi).2.2.1)) (kk_p ?_)
                      refine j_iret dX11_says_205 rfl ?_
                      have hz : saysK Z q k = ((humT Z.1 i (Z.1 12 i)), Z) := by
                        clear hQ
                        clear cv hM hS ok
                        have h01 := (okS.th hi).2.2.2
                        have hcl := nI_clamp (show i < 2 ^ 31 by omega)
                        have hin := i_ok hi (show nT Z.1 < 2 ^ 31 by omega)
                        have hone := one_all (q := q) (okS.th hi).1
                        have hsf := sfar_c (c := Z.1 12 i)
                        rw [← hp] at hin hcl
                        grind [saysK, cif, saysI, inZ, humT, lossT, may_1]
                      exact hQ _ _ ⟨by rw [hz], by rw [hz]; exact cv⟩
                    refine j_tableOut (tgt := 206) dX11_says_136 (by have q0 := lv_neT c182 (a := 0) (by decide); have q1 := lv_neT c183 (a := 1) (by decide); have q2 := lv_neT c184 (a := 2) (by decide); have q3 := lv_neT c185 (a := 3) (by decide); have q4 := lv_neT c186 (a := 4) (by decide); have q5 := lv_neT c187 (a := 5) (by decide); have q6 := lv_neT c188 (a := 6) (by decide); omega) rfl ?_
                    refine j_aload_n 3 dX11_says_206 rfl ?_
                    refine j_iload_n 2 dX11_says_207 rfl ?_
                    refine j_callV (kc := 0) (ks := 0) (a := 0) (b := 0) (d' := d) (As := [.int (nI i)]) dX11_says_208 kX11_141 rfl (shM hM sgM_0) (by omega) rfl rfl rfl (Nat.le_of_ble_eq_true rfl) (Nat.le_of_ble_eq_true rfl) (T_X11_loss hM hS okS i (by omega)) (kk_p ?_)
                    refine j_iret dX11_says_211 rfl ?_
                    have hz : saysK Z q k = ((lossT Z.1 i), Z) := by
                      clear hQ
                      clear cv hM hS ok
                      have h01 := (okS.th hi).2.2.2
                      have hcl := nI_clamp (show i < 2 ^ 31 by omega)
                      have hin := i_ok hi (show nT Z.1 < 2 ^ 31 by omega)
                      have hone := one_all (q := q) (okS.th hi).1
                      have hsf := sfar_c (c := Z.1 12 i)
                      rw [← hp] at hin hcl
                      grind [saysK, cif, saysI, inZ, humT, lossT, may_1]
                    exact hQ _ _ ⟨by rw [hz], by rw [hz]; exact cv⟩
                  · refine j_iload 0 dX11_says_123 rfl ?_
                    refine j_if_ne (tgt := 135) dX11_says_125 rfl (fun c189 => ?_) (fun c189 => ?_)
                    · refine j_iload_n 5 dX11_says_135 rfl ?_
                      by_cases c191 : q = 0
                      · refine j_tableIn (tgt := 180) dX11_says_136 (by rw [c191]; decide) (by rw [c191]; decide) (off := 44) (by rw [c191]; decide) rfl ?_
                        refine j_aload_n 3 dX11_says_180 rfl ?_
                        refine j_getr (q := 4) dX11_says_181 fX11_35 (shM hM sgM_0) rfl (rfM hM rfM_0_12) ?_
                        refine j_iload_n 2 dX11_says_184 rfl ?_
                        refine j_ialdN i dX11_says_185 (shM hM sgM_4) (by omega) (by omega) ?_
                        refine j_topi (Z.1 12 i) (mr_arT hS (k := 2) (by omega) (by decide)) ?_
                        refine j_iret dX11_says_186 rfl ?_
                        have hz : saysK Z q k = ((Z.1 12 i), Z) := by
                          clear hQ
                          clear cv hM hS ok
                          have h01 := (okS.th hi).2.2.2
                          have hcl := nI_clamp (show i < 2 ^ 31 by omega)
                          have hin := i_ok hi (show nT Z.1 < 2 ^ 31 by omega)
                          have hone := one_all (q := q) (okS.th hi).1
                          have hsf := sfar_c (c := Z.1 12 i)
                          rw [← hp] at hin hcl
                          grind [saysK, cif, saysI, inZ, humT, lossT, may_1]
                        exact hQ _ _ ⟨by rw [hz], by rw [hz]; exact cv⟩
                      by_cases c192 : q = 1
                      · refine j_tableIn (tgt := 206) dX11_says_136 (by rw [c192]; decide) (by rw [c192]; decide) (off := 70) (by rw [c192]; decide) rfl ?_
                        refine j_aload_n 3 dX11_says_206 rfl ?_
                        refine j_iload_n 2 dX11_says_207 rfl ?_
                        refine j_callV (kc := 0) (ks := 0) (a := 0) (b := 0) (d' := d) (As := [.int (nI i)]) dX11_says_208 kX11_141 rfl (shM hM sgM_0) (by omega) rfl rfl rfl (Nat.le_of_ble_eq_true rfl) (Nat.le_of_ble_eq_true rfl) (T_X11_loss hM hS okS i (by omega)) (kk_p ?_)
                        refine j_iret dX11_says_211 rfl ?_
                        have hz : saysK Z q k = ((lossT Z.1 i), Z) := by
                          clear hQ
                          clear cv hM hS ok
                          have h01 := (okS.th hi).2.2.2
                          have hcl := nI_clamp (show i < 2 ^ 31 by omega)
                          have hin := i_ok hi (show nT Z.1 < 2 ^ 31 by omega)
                          have hone := one_all (q := q) (okS.th hi).1
                          have hsf := sfar_c (c := Z.1 12 i)
                          rw [← hp] at hin hcl
                          grind [saysK, cif, saysI, inZ, humT, lossT, may_1]
                        exact hQ _ _ ⟨by rw [hz], by rw [hz]; exact cv⟩
                      by_cases c193 : q = 2
                      · refine j_tableIn (tgt := 187) dX11_says_136 (by rw [c193]; decide) (by rw [c193]; decide) (off := 51) (by rw [c193]; decide) rfl ?_
                        refine j_aload_n 3 dX11_says_187 rfl ?_
                        refine j_getr (q := 5) dX11_says_188 fX11_38 (shM hM sgM_0) rfl (rfM hM rfM_0_13) ?_
                        refine j_iload_n 2 dX11_says_191 rfl ?_
                        refine j_ialdN i dX11_says_192 (shM hM sgM_5) (by omega) (by omega) ?_
                        refine j_topi (Z.1 13 i) (mr_arT hS (k := 3) (by omega) (by decide)) ?_
                        refine j_iret dX11_says_193 rfl ?_
                        have hz : saysK Z q k = ((Z.1 13 i), Z) := by
                          clear hQ
                          clear cv hM hS ok
                          have h01 := (okS.th hi).2.2.2
                          have hcl := nI_clamp (show i < 2 ^ 31 by omega)
                          have hin := i_ok hi (show nT Z.1 < 2 ^ 31 by omega)
                          have hone := one_all (q := q) (okS.th hi).1
                          have hsf := sfar_c (c := Z.1 12 i)
                          rw [← hp] at hin hcl
                          grind [saysK, cif, saysI, inZ, humT, lossT, may_1]
                        exact hQ _ _ ⟨by rw [hz], by rw [hz]; exact cv⟩
                      by_cases c194 : q = 3
                      · refine j_tableIn (tgt := 206) dX11_says_136 (by rw [c194]; decide) (by rw [c194]; decide) (off := 70) (by rw [c194]; decide) rfl ?_
                        refine j_aload_n 3 dX11_says_206 rfl ?_
                        refine j_iload_n 2 dX11_says_207 rfl ?_
                        refine j_callV (kc := 0) (ks := 0) (a := 0) (b := 0) (d' := d) (As := [.int (nI i)]) dX11_says_208 kX11_141 rfl (shM hM sgM_0) (by omega) rfl rfl rfl (Nat.le_of_ble_eq_true rfl) (Nat.le_of_ble_eq_true rfl) (T_X11_loss hM hS okS i (by omega)) (kk_p ?_)
                        refine j_iret dX11_says_211 rfl ?_
                        have hz : saysK Z q k = ((lossT Z.1 i), Z) := by
                          clear hQ
                          clear cv hM hS ok
                          have h01 := (okS.th hi).2.2.2
                          have hcl := nI_clamp (show i < 2 ^ 31 by omega)
                          have hin := i_ok hi (show nT Z.1 < 2 ^ 31 by omega)
                          have hone := one_all (q := q) (okS.th hi).1
                          have hsf := sfar_c (c := Z.1 12 i)
                          rw [← hp] at hin hcl
                          grind [saysK, cif, saysI, inZ, humT, lossT, may_1]
                        exact hQ _ _ ⟨by rw [hz], by rw [hz]; exact cv⟩
                      by_cases c195 : q = 4
                      · refine j_tableIn (tgt := 194) dX11_says_136 (by rw [c195]; decide) (by rw [c195]; decide) (off := 58) (by rw [c195]; decide) rfl ?_
                        refine j_aload_n 3 dX11_says_194 rfl ?_
                        refine j_iload_n 2 dX11_says_195 rfl ?_
                        refine j_aload_n 3 dX11_says_196 rfl ?_
                        refine j_getr (q := 4) dX11_says_197 fX11_35 (shM hM sgM_0) rfl (rfM hM rfM_0_12) ?_
                        refine j_iload_n 2 dX11_says_200 rfl ?_
                        refine j_ialdN i dX11_says_201 (shM hM sgM_4) (by omega) (by omega) ?_
                        refine j_topi (Z.1 12 i) (mr_arT hS (k := 2) (by omega) (by decide)) ?_
                        refine j_callV (kc := 0) (ks := 0) (a := 0) (b := 0) (d' := (d + 2)) (As := [.int (nI i), .int (Z.1 12 i)]) dX11_says_202 kX11_137 rfl (shM hM sgM_0) (by omega) rfl rfl rfl (Nat.le_of_ble_eq_true rfl) (Nat.le_of_ble_eq_true rfl) (T_X11_hums hM hS okS i (by omega) (Z.1 12 i) (isC_P okS (okS.th hi).2.2.1)) (kk_p ?_)
                        refine j_iret dX11_says_205 rfl ?_
                        have hz : saysK Z q k = ((humT Z.1 i (Z.1 12 i)), Z) := by
                          clear hQ
                          clear cv hM hS ok
                          have h01 := (okS.th hi).2.2.2
                          have hcl := nI_clamp (show i < 2 ^ 31 by omega)
                          have hin := i_ok hi (show nT Z.1 < 2 ^ 31 by omega)
                          have hone := one_all (q := q) (okS.th hi).1
                          have hsf := sfar_c (c := Z.1 12 i)
                          rw [← hp] at hin hcl
                          grind [saysK, cif, saysI, inZ, humT, lossT, may_1]
                        exact hQ _ _ ⟨by rw [hz], by rw [hz]; exact cv⟩
                      by_cases c196 : q = 5
                      · refine j_tableIn (tgt := 206) dX11_says_136 (by rw [c196]; decide) (by rw [c196]; decide) (off := 70) (by rw [c196]; decide) rfl ?_
                        refine j_aload_n 3 dX11_says_206 rfl ?_
                        refine j_iload_n 2 dX11_says_207 rfl ?_
                        refine j_callV (kc := 0) (ks := 0) (a := 0) (b := 0) (d' := d) (As := [.int (nI i)]) dX11_says_208 kX11_141 rfl (shM hM sgM_0) (by omega) rfl rfl rfl (Nat.le_of_ble_eq_true rfl) (Nat.le_of_ble_eq_true rfl) (T_X11_loss hM hS okS i (by omega)) (kk_p ?_)
                        refine j_iret dX11_says_211 rfl ?_
                        have hz : saysK Z q k = ((lossT Z.1 i), Z) := by
                          clear hQ
                          clear cv hM hS ok
                          have h01 := (okS.th hi).2.2.2
                          have hcl := nI_clamp (show i < 2 ^ 31 by omega)
                          have hin := i_ok hi (show nT Z.1 < 2 ^ 31 by omega)
                          have hone := one_all (q := q) (okS.th hi).1
                          have hsf := sfar_c (c := Z.1 12 i)
                          rw [← hp] at hin hcl
                          grind [saysK, cif, saysI, inZ, humT, lossT, may_1]
                        exact hQ _ _ ⟨by rw [hz], by rw [hz]; exact cv⟩
                      by_cases c197 : q = 6
                      · refine j_tableIn (tgt := 194) dX11_says_136 (by rw [c197]; decide) (by rw [c197]; decide) (off := 58) (by rw [c197]; decide) rfl ?_
                        refine j_aload_n 3 dX11_says_194 rfl ?_
                        refine j_iload_n 2 dX11_says_195 rfl ?_
                        refine j_aload_n 3 dX11_says_196 rfl ?_
                        refine j_getr (q := 4) dX11_says_197 fX11_35 (shM hM sgM_0) rfl (rfM hM rfM_0_12) ?_
                        refine j_iload_n 2 dX11_says_200 rfl ?_
                        refine j_ialdN i dX11_says_201 (shM hM sgM_4) (by omega) (by omega) ?_
                        refine j_topi (Z.1 12 i) (mr_arT hS (k := 2) (by omega) (by decide)) ?_
                        refine j_callV (kc := 0) (ks := 0) (a := 0) (b := 0) (d' := (d + 2)) (As := [.int (nI i), .int (Z.1 12 i)]) dX11_says_202 kX11_137 rfl (shM hM sgM_0) (by omega) rfl rfl rfl (Nat.le_of_ble_eq_true rfl) (Nat.le_of_ble_eq_true rfl) (T_X11_hums hM hS okS i (by omega) (Z.1 12 i) (isC_P okS (okS.th hi).2.2.1)) (kk_p ?_)
                        refine j_iret dX11_says_205 rfl ?_
                        have hz : saysK Z q k = ((humT Z.1 i (Z.1 12 i)), Z) := by
                          clear hQ
                          clear cv hM hS ok
                          have h01 := (okS.th hi).2.2.2
                          have hcl := nI_clamp (show i < 2 ^ 31 by omega)
                          have hin := i_ok hi (show nT Z.1 < 2 ^ 31 by omega)
                          have hone := one_all (q := q) (okS.th hi).1
                          have hsf := sfar_c (c := Z.1 12 i)
                          rw [← hp] at hin hcl
                          grind [saysK, cif, saysI, inZ, humT, lossT, may_1]
                        exact hQ _ _ ⟨by rw [hz], by rw [hz]; exact cv⟩
                      refine j_tableOut (tgt := 206) dX11_says_136 (by have q0 := lv_neT c191 (a := 0) (by decide); have q1 := lv_neT c192 (a := 1) (by decide); have q2 := lv_neT c193 (a := 2) (by decide); have q3 := lv_neT c194 (a := 3) (by decide); have q4 := lv_neT c195 (a := 4) (by decide); have q5 := lv_neT c196 (a := 5) (by decide); have q6 := lv_neT c197 (a := 6) (by decide); omega) rfl ?_
                      refine j_aload_n 3 dX11_says_206 rfl ?_
                      refine j_iload_n 2 dX11_says_207 rfl ?_
                      refine j_callV (kc := 0) (ks := 0) (a := 0) (b := 0) (d' := d) (As := [.int (nI i)]) dX11_says_208 kX11_141 rfl (shM hM sgM_0) (by omega) rfl rfl rfl (Nat.le_of_ble_eq_true rfl) (Nat.le_of_ble_eq_true rfl) (T_X11_loss hM hS okS i (by omega)) (kk_p ?_)
                      refine j_iret dX11_says_211 rfl ?_
                      have hz : saysK Z q k = ((lossT Z.1 i), Z) := by
                        clear hQ
                        clear cv hM hS ok
                        have h01 := (okS.th hi).2.2.2
                        have hcl := nI_clamp (show i < 2 ^ 31 by omega)
                        have hin := i_ok hi (show nT Z.1 < 2 ^ 31 by omega)
                        have hone := one_all (q := q) (okS.th hi).1
                        have hsf := sfar_c (c := Z.1 12 i)
                        rw [← hp] at hin hcl
                        grind [saysK, cif, saysI, inZ, humT, lossT, may_1]
                      exact hQ _ _ ⟨by rw [hz], by rw [hz]; exact cv⟩
                    · exact absurd c189 (by decide)
              · refine j_iload_n 4 dX11_says_83 rfl ?_
                refine j_iconst 2 dX11_says_84 ic_2 ?_
                refine j_icmp_ne (tgt := 94) dX11_says_85 rfl (fun c198 => ?_) (fun c198 => ?_)
                · refine j_iload_n 4 dX11_says_94 rfl ?_
                  refine j_iconst 4 dX11_says_95 ic_4 ?_
                  refine j_icmp_ne (tgt := 110) dX11_says_96 rfl (fun c199 => ?_) (fun c199 => ?_)
                  · refine j_iconst 0 dX11_says_110 ic_0 ?_
                    refine j_istore (L' := [(5, .int 0), (4, .int (Z.1 10 i)), (3, .int (nI i)), (0, .ref 0), (1, .int (nI k)), (2, .int q)]) dX11_says_111 (by decide) rfl ?_
                    refine j_iload_n 5 dX11_says_113 rfl ?_
                    refine j_if_eq (tgt := 135) dX11_says_114 rfl (fun c200 => ?_) (fun c200 => ?_)
                    · refine j_iload_n 5 dX11_says_135 rfl ?_
                      by_cases c202 : q = 0
                      · refine j_tableIn (tgt := 180) dX11_says_136 (by rw [c202]; decide) (by rw [c202]; decide) (off := 44) (by rw [c202]; decide) rfl ?_
                        refine j_aload_n 3 dX11_says_180 rfl ?_
                        refine j_getr (q := 4) dX11_says_181 fX11_35 (shM hM sgM_0) rfl (rfM hM rfM_0_12) ?_
                        refine j_iload_n 2 dX11_says_184 rfl ?_
                        refine j_ialdN i dX11_says_185 (shM hM sgM_4) (by omega) (by omega) ?_
                        refine j_topi (Z.1 12 i) (mr_arT hS (k := 2) (by omega) (by decide)) ?_
                        refine j_iret dX11_says_186 rfl ?_
                        have hz : saysK Z q k = ((Z.1 12 i), Z) := by
                          clear hQ
                          clear cv hM hS ok
                          have h01 := (okS.th hi).2.2.2
                          have hcl := nI_clamp (show i < 2 ^ 31 by omega)
                          have hin := i_ok hi (show nT Z.1 < 2 ^ 31 by omega)
                          have hone := one_all (q := q) (okS.th hi).1
                          have hsf := sfar_c (c := Z.1 12 i)
                          rw [← hp] at hin hcl
                          grind [saysK, cif, saysI, inZ, humT, lossT, may_1]
                        exact hQ _ _ ⟨by rw [hz], by rw [hz]; exact cv⟩
                      by_cases c203 : q = 1
                      · refine j_tableIn (tgt := 206) dX11_says_136 (by rw [c203]; decide) (by rw [c203]; decide) (off := 70) (by rw [c203]; decide) rfl ?_
                        refine j_aload_n 3 dX11_says_206 rfl ?_
                        refine j_iload_n 2 dX11_says_207 rfl ?_
                        refine j_callV (kc := 0) (ks := 0) (a := 0) (b := 0) (d' := d) (As := [.int (nI i)]) dX11_says_208 kX11_141 rfl (shM hM sgM_0) (by omega) rfl rfl rfl (Nat.le_of_ble_eq_true rfl) (Nat.le_of_ble_eq_true rfl) (T_X11_loss hM hS okS i (by omega)) (kk_p ?_)
                        refine j_iret dX11_says_211 rfl ?_
                        have hz : saysK Z q k = ((lossT Z.1 i), Z) := by
                          clear hQ
                          clear cv hM hS ok
                          have h01 := (okS.th hi).2.2.2
                          have hcl := nI_clamp (show i < 2 ^ 31 by omega)
                          have hin := i_ok hi (show nT Z.1 < 2 ^ 31 by omega)
                          have hone := one_all (q := q) (okS.th hi).1
                          have hsf := sfar_c (c := Z.1 12 i)
                          rw [← hp] at hin hcl
                          grind [saysK, cif, saysI, inZ, humT, lossT, may_1]
                        exact hQ _ _ ⟨by rw [hz], by rw [hz]; exact cv⟩
                      by_cases c204 : q = 2
                      · refine j_tableIn (tgt := 187) dX11_says_136 (by rw [c204]; decide) (by rw [c204]; decide) (off := 51) (by rw [c204]; decide) rfl ?_
                        refine j_aload_n 3 dX11_says_187 rfl ?_
                        refine j_getr (q := 5) dX11_says_188 fX11_38 (shM hM sgM_0) rfl (rfM hM rfM_0_13) ?_
                        refine j_iload_n 2 dX11_says_191 rfl ?_
                        refine j_ialdN i dX11_says_192 (shM hM sgM_5) (by omega) (by omega) ?_
                        refine j_topi (Z.1 13 i) (mr_arT hS (k := 3) (by omega) (by decide)) ?_
                        refine j_iret dX11_says_193 rfl ?_
                        have hz : saysK Z q k = ((Z.1 13 i), Z) := by
                          clear hQ
                          clear cv hM hS ok
                          have h01 := (okS.th hi).2.2.2
                          have hcl := nI_clamp (show i < 2 ^ 31 by omega)
                          have hin := i_ok hi (show nT Z.1 < 2 ^ 31 by omega)
                          have hone := one_all (q := q) (okS.th hi).1
                          have hsf := sfar_c (c := Z.1 12 i)
                          rw [← hp] at hin hcl
                          grind [saysK, cif, saysI, inZ, humT, lossT, may_1]
                        exact hQ _ _ ⟨by rw [hz], by rw [hz]; exact cv⟩
                      by_cases c205 : q = 3
                      · refine j_tableIn (tgt := 206) dX11_says_136 (by rw [c205]; decide) (by rw [c205]; decide) (off := 70) (by rw [c205]; decide) rfl ?_
                        refine j_aload_n 3 dX11_says_206 rfl ?_
                        refine j_iload_n 2 dX11_says_207 rfl ?_
                        refine j_callV (kc := 0) (ks := 0) (a := 0) (b := 0) (d' := d) (As := [.int (nI i)]) dX11_says_208 kX11_141 rfl (shM hM sgM_0) (by omega) rfl rfl rfl (Nat.le_of_ble_eq_true rfl) (Nat.le_of_ble_eq_true rfl) (T_X11_loss hM hS okS i (by omega)) (kk_p ?_)
                        refine j_iret dX11_says_211 rfl ?_
                        have hz : saysK Z q k = ((lossT Z.1 i), Z) := by
                          clear hQ
                          clear cv hM hS ok
                          have h01 := (okS.th hi).2.2.2
                          have hcl := nI_clamp (show i < 2 ^ 31 by omega)
                          have hin := i_ok hi (show nT Z.1 < 2 ^ 31 by omega)
                          have hone := one_all (q := q) (okS.th hi).1
                          have hsf := sfar_c (c := Z.1 12 i)
                          rw [← hp] at hin hcl
                          grind [saysK, cif, saysI, inZ, humT, lossT, may_1]
                        exact hQ _ _ ⟨by rw [hz], by rw [hz]; exact cv⟩
                      by_cases c206 : q = 4
                      · refine j_tableIn (tgt := 194) dX11_says_136 (by rw [c206]; decide) (by rw [c206]; decide) (off := 58) (by rw [c206]; decide) rfl ?_
                        refine j_aload_n 3 dX11_says_194 rfl ?_
                        refine j_iload_n 2 dX11_says_195 rfl ?_
                        refine j_aload_n 3 dX11_says_196 rfl ?_
                        refine j_getr (q := 4) dX11_says_197 fX11_35 (shM hM sgM_0) rfl (rfM hM rfM_0_12) ?_
                        refine j_iload_n 2 dX11_says_200 rfl ?_
                        refine j_ialdN i dX11_says_201 (shM hM sgM_4) (by omega) (by omega) ?_
                        refine j_topi (Z.1 12 i) (mr_arT hS (k := 2) (by omega) (by decide)) ?_
                        refine j_callV (kc := 0) (ks := 0) (a := 0) (b := 0) (d' := (d + 2)) (As := [.int (nI i), .int (Z.1 12 i)]) dX11_says_202 kX11_137 rfl (shM hM sgM_0) (by omega) rfl rfl rfl (Nat.le_of_ble_eq_true rfl) (Nat.le_of_ble_eq_true rfl) (T_X11_hums hM hS okS i (by omega) (Z.1 12 i) (isC_P okS (okS.th hi).2.2.1)) (kk_p ?_)
                        refine j_iret dX11_says_205 rfl ?_
                        have hz : saysK Z q k = ((humT Z.1 i (Z.1 12 i)), Z) := by
                          clear hQ
                          clear cv hM hS ok
                          have h01 := (okS.th hi).2.2.2
                          have hcl := nI_clamp (show i < 2 ^ 31 by omega)
                          have hin := i_ok hi (show nT Z.1 < 2 ^ 31 by omega)
                          have hone := one_all (q := q) (okS.th hi).1
                          have hsf := sfar_c (c := Z.1 12 i)
                          rw [← hp] at hin hcl
                          grind [saysK, cif, saysI, inZ, humT, lossT, may_1]
                        exact hQ _ _ ⟨by rw [hz], by rw [hz]; exact cv⟩
                      by_cases c207 : q = 5
                      · refine j_tableIn (tgt := 206) dX11_says_136 (by rw [c207]; decide) (by rw [c207]; decide) (off := 70) (by rw [c207]; decide) rfl ?_
                        refine j_aload_n 3 dX11_says_206 rfl ?_
                        refine j_iload_n 2 dX11_says_207 rfl ?_
                        refine j_callV (kc := 0) (ks := 0) (a := 0) (b := 0) (d' := d) (As := [.int (nI i)]) dX11_says_208 kX11_141 rfl (shM hM sgM_0) (by omega) rfl rfl rfl (Nat.le_of_ble_eq_true rfl) (Nat.le_of_ble_eq_true rfl) (T_X11_loss hM hS okS i (by omega)) (kk_p ?_)
                        refine j_iret dX11_says_211 rfl ?_
                        have hz : saysK Z q k = ((lossT Z.1 i), Z) := by
                          clear hQ
                          clear cv hM hS ok
                          have h01 := (okS.th hi).2.2.2
                          have hcl := nI_clamp (show i < 2 ^ 31 by omega)
                          have hin := i_ok hi (show nT Z.1 < 2 ^ 31 by omega)
                          have hone := one_all (q := q) (okS.th hi).1
                          have hsf := sfar_c (c := Z.1 12 i)
                          rw [← hp] at hin hcl
                          grind [saysK, cif, saysI, inZ, humT, lossT, may_1]
                        exact hQ _ _ ⟨by rw [hz], by rw [hz]; exact cv⟩
                      by_cases c208 : q = 6
                      · refine j_tableIn (tgt := 194) dX11_says_136 (by rw [c208]; decide) (by rw [c208]; decide) (off := 58) (by rw [c208]; decide) rfl ?_
                        refine j_aload_n 3 dX11_says_194 rfl ?_
                        refine j_iload_n 2 dX11_says_195 rfl ?_
                        refine j_aload_n 3 dX11_says_196 rfl ?_
                        refine j_getr (q := 4) dX11_says_197 fX11_35 (shM hM sgM_0) rfl (rfM hM rfM_0_12) ?_
                        refine j_iload_n 2 dX11_says_200 rfl ?_
                        refine j_ialdN i dX11_says_201 (shM hM sgM_4) (by omega) (by omega) ?_
                        refine j_topi (Z.1 12 i) (mr_arT hS (k := 2) (by omega) (by decide)) ?_
                        refine j_callV (kc := 0) (ks := 0) (a := 0) (b := 0) (d' := (d + 2)) (As := [.int (nI i), .int (Z.1 12 i)]) dX11_says_202 kX11_137 rfl (shM hM sgM_0) (by omega) rfl rfl rfl (Nat.le_of_ble_eq_true rfl) (Nat.le_of_ble_eq_true rfl) (T_X11_hums hM hS okS i (by omega) (Z.1 12 i) (isC_P okS (okS.th hi).2.2.1)) (kk_p ?_)
                        refine j_iret dX11_says_205 rfl ?_
                        have hz : saysK Z q k = ((humT Z.1 i (Z.1 12 i)), Z) := by
                          clear hQ
                          clear cv hM hS ok
                          have h01 := (okS.th hi).2.2.2
                          have hcl := nI_clamp (show i < 2 ^ 31 by omega)
                          have hin := i_ok hi (show nT Z.1 < 2 ^ 31 by omega)
                          have hone := one_all (q := q) (okS.th hi).1
                          have hsf := sfar_c (c := Z.1 12 i)
                          rw [← hp] at hin hcl
                          grind [saysK, cif, saysI, inZ, humT, lossT, may_1]
                        exact hQ _ _ ⟨by rw [hz], by rw [hz]; exact cv⟩
                      refine j_tableOut (tgt := 206) dX11_says_136 (by have q0 := lv_neT c202 (a := 0) (by decide); have q1 := lv_neT c203 (a := 1) (by decide); have q2 := lv_neT c204 (a := 2) (by decide); have q3 := lv_neT c205 (a := 3) (by decide); have q4 := lv_neT c206 (a := 4) (by decide); have q5 := lv_neT c207 (a := 5) (by decide); have q6 := lv_neT c208 (a := 6) (by decide); omega) rfl ?_
                      refine j_aload_n 3 dX11_says_206 rfl ?_
                      refine j_iload_n 2 dX11_says_207 rfl ?_
                      refine j_callV (kc := 0) (ks := 0) (a := 0) (b := 0) (d' := d) (As := [.int (nI i)]) dX11_says_208 kX11_141 rfl (shM hM sgM_0) (by omega) rfl rfl rfl (Nat.le_of_ble_eq_true rfl) (Nat.le_of_ble_eq_true rfl) (T_X11_loss hM hS okS i (by omega)) (kk_p ?_)
                      refine j_iret dX11_says_211 rfl ?_
                      have hz : saysK Z q k = ((lossT Z.1 i), Z) := by
                        clear hQ
                        clear cv hM hS ok
                        have h01 := (okS.th hi).2.2.2
                        have hcl := nI_clamp (show i < 2 ^ 31 by omega)
                        have hin := i_ok hi (show nT Z.1 < 2 ^ 31 by omega)
                        have hone := one_all (q := q) (okS.th hi).1
                        have hsf := sfar_c (c := Z.1 12 i)
                        rw [← hp] at hin hcl
                        grind [saysK, cif, saysI, inZ, humT, lossT, may_1]
                      exact hQ _ _ ⟨by rw [hz], by rw [hz]; exact cv⟩
                    · refine j_iload_n 5 dX11_says_117 rfl ?_
                      refine j_iload 1 dX11_says_118 rfl ?_
                      refine j_icmp_eq (tgt := 135) dX11_says_120 rfl (fun c209 => ?_) (fun c209 => ?_)
                      · refine j_iload_n 5 dX11_says_135 rfl ?_
                        by_cases c211 : q = 0
                        · refine j_tableIn (tgt := 180) dX11_says_136 (by rw [c211]; decide) (by rw [c211]; decide) (off := 44) (by rw [c211]; decide) rfl ?_
                          refine j_aload_n 3 dX11_says_180 rfl ?_
                          refine j_getr (q := 4) dX11_says_181 fX11_35 (shM hM sgM_0) rfl (rfM hM rfM_0_12) ?_
                          refine j_iload_n 2 dX11_says_184 rfl ?_
                          refine j_ialdN i dX11_says_185 (shM hM sgM_4) (by omega) (by omega) ?_
                          refine j_topi (Z.1 12 i) (mr_arT hS (k := 2) (by omega) (by decide)) ?_
                          refine j_iret dX11_says_186 rfl ?_
                          have hz : saysK Z q k = ((Z.1 12 i), Z) := by
                            clear hQ
                            clear cv hM hS ok
                            have h01 := (okS.th hi).2.2.2
                            have hcl := nI_clamp (show i < 2 ^ 31 by omega)
                            have hin := i_ok hi (show nT Z.1 < 2 ^ 31 by omega)
                            have hone := one_all (q := q) (okS.th hi).1
                            have hsf := sfar_c (c := Z.1 12 i)
                            rw [← hp] at hin hcl
                            grind [saysK, cif, saysI, inZ, humT, lossT, may_1]
                          exact hQ _ _ ⟨by rw [hz], by rw [hz]; exact cv⟩
                        by_cases c212 : q = 1
                        · refine j_tableIn (tgt := 206) dX11_says_136 (by rw [c212]; decide) (by rw [c212]; decide) (off := 70) (by rw [c212]; decide) rfl ?_
                          refine j_aload_n 3 dX11_says_206 rfl ?_
                          refine j_iload_n 2 dX11_says_207 rfl ?_
                          refine j_callV (kc := 0) (ks := 0) (a := 0) (b := 0) (d' := d) (As := [.int (nI i)]) dX11_says_208 kX11_141 rfl (shM hM sgM_0) (by omega) rfl rfl rfl (Nat.le_of_ble_eq_true rfl) (Nat.le_of_ble_eq_true rfl) (T_X11_loss hM hS okS i (by omega)) (kk_p ?_)
                          refine j_iret dX11_says_211 rfl ?_
                          have hz : saysK Z q k = ((lossT Z.1 i), Z) := by
                            clear hQ
                            clear cv hM hS ok
                            have h01 := (okS.th hi).2.2.2
                            have hcl := nI_clamp (show i < 2 ^ 31 by omega)
                            have hin := i_ok hi (show nT Z.1 < 2 ^ 31 by omega)
                            have hone := one_all (q := q) (okS.th hi).1
                            have hsf := sfar_c (c := Z.1 12 i)
                            rw [← hp] at hin hcl
                            grind [saysK, cif, saysI, inZ, humT, lossT, may_1]
                          exact hQ _ _ ⟨by rw [hz], by rw [hz]; exact cv⟩
                        by_cases c213 : q = 2
                        · refine j_tableIn (tgt := 187) dX11_says_136 (by rw [c213]; decide) (by rw [c213]; decide) (off := 51) (by rw [c213]; decide) rfl ?_
                          refine j_aload_n 3 dX11_says_187 rfl ?_
                          refine j_getr (q := 5) dX11_says_188 fX11_38 (shM hM sgM_0) rfl (rfM hM rfM_0_13) ?_
                          refine j_iload_n 2 dX11_says_191 rfl ?_
                          refine j_ialdN i dX11_says_192 (shM hM sgM_5) (by omega) (by omega) ?_
                          refine j_topi (Z.1 13 i) (mr_arT hS (k := 3) (by omega) (by decide)) ?_
                          refine j_iret dX11_says_193 rfl ?_
                          have hz : saysK Z q k = ((Z.1 13 i), Z) := by
                            clear hQ
                            clear cv hM hS ok
                            have h01 := (okS.th hi).2.2.2
                            have hcl := nI_clamp (show i < 2 ^ 31 by omega)
                            have hin := i_ok hi (show nT Z.1 < 2 ^ 31 by omega)
                            have hone := one_all (q := q) (okS.th hi).1
                            have hsf := sfar_c (c := Z.1 12 i)
                            rw [← hp] at hin hcl
                            grind [saysK, cif, saysI, inZ, humT, lossT, may_1]
                          exact hQ _ _ ⟨by rw [hz], by rw [hz]; exact cv⟩
                        by_cases c214 : q = 3
                        · refine j_tableIn (tgt := 206) dX11_says_136 (by rw [c214]; decide) (by rw [c214]; decide) (off := 70) (by rw [c214]; decide) rfl ?_
                          refine j_aload_n 3 dX11_says_206 rfl ?_
                          refine j_iload_n 2 dX11_says_207 rfl ?_
                          refine j_callV (kc := 0) (ks := 0) (a := 0) (b := 0) (d' := d) (As := [.int (nI i)]) dX11_says_208 kX11_141 rfl (shM hM sgM_0) (by omega) rfl rfl rfl (Nat.le_of_ble_eq_true rfl) (Nat.le_of_ble_eq_true rfl) (T_X11_loss hM hS okS i (by omega)) (kk_p ?_)
                          refine j_iret dX11_says_211 rfl ?_
                          have hz : saysK Z q k = ((lossT Z.1 i), Z) := by
                            clear hQ
                            clear cv hM hS ok
                            have h01 := (okS.th hi).2.2.2
                            have hcl := nI_clamp (show i < 2 ^ 31 by omega)
                            have hin := i_ok hi (show nT Z.1 < 2 ^ 31 by omega)
                            have hone := one_all (q := q) (okS.th hi).1
                            have hsf := sfar_c (c := Z.1 12 i)
                            rw [← hp] at hin hcl
                            grind [saysK, cif, saysI, inZ, humT, lossT, may_1]
                          exact hQ _ _ ⟨by rw [hz], by rw [hz]; exact cv⟩
                        by_cases c215 : q = 4
                        · refine j_tableIn (tgt := 194) dX11_says_136 (by rw [c215]; decide) (by rw [c215]; decide) (off := 58) (by rw [c215]; decide) rfl ?_
                          refine j_aload_n 3 dX11_says_194 rfl ?_
                          refine j_iload_n 2 dX11_says_195 rfl ?_
                          refine j_aload_n 3 dX11_says_196 rfl ?_
                          refine j_getr (q := 4) dX11_says_197 fX11_35 (shM hM sgM_0) rfl (rfM hM rfM_0_12) ?_
                          refine j_iload_n 2 dX11_says_200 rfl ?_
                          refine j_ialdN i dX11_says_201 (shM hM sgM_4) (by omega) (by omega) ?_
                          refine j_topi (Z.1 12 i) (mr_arT hS (k := 2) (by omega) (by decide)) ?_
                          refine j_callV (kc := 0) (ks := 0) (a := 0) (b := 0) (d' := (d + 2)) (As := [.int (nI i), .int (Z.1 12 i)]) dX11_says_202 kX11_137 rfl (shM hM sgM_0) (by omega) rfl rfl rfl (Nat.le_of_ble_eq_true rfl) (Nat.le_of_ble_eq_true rfl) (T_X11_hums hM hS okS i (by omega) (Z.1 12 i) (isC_P okS (okS.th hi).2.2.1)) (kk_p ?_)
                          refine j_iret dX11_says_205 rfl ?_
                          have hz : saysK Z q k = ((humT Z.1 i (Z.1 12 i)), Z) := by
                            clear hQ
                            clear cv hM hS ok
                            have h01 := (okS.th hi).2.2.2
                            have hcl := nI_clamp (show i < 2 ^ 31 by omega)
                            have hin := i_ok hi (show nT Z.1 < 2 ^ 31 by omega)
                            have hone := one_all (q := q) (okS.th hi).1
                            have hsf := sfar_c (c := Z.1 12 i)
                            rw [← hp] at hin hcl
                            grind [saysK, cif, saysI, inZ, humT, lossT, may_1]
                          exact hQ _ _ ⟨by rw [hz], by rw [hz]; exact cv⟩
                        by_cases c216 : q = 5
                        · refine j_tableIn (tgt := 206) dX11_says_136 (by rw [c216]; decide) (by rw [c216]; decide) (off := 70) (by rw [c216]; decide) rfl ?_
                          refine j_aload_n 3 dX11_says_206 rfl ?_
                          refine j_iload_n 2 dX11_says_207 rfl ?_
                          refine j_callV (kc := 0) (ks := 0) (a := 0) (b := 0) (d' := d) (As := [.int (nI i)]) dX11_says_208 kX11_141 rfl (shM hM sgM_0) (by omega) rfl rfl rfl (Nat.le_of_ble_eq_true rfl) (Nat.le_of_ble_eq_true rfl) (T_X11_loss hM hS okS i (by omega)) (kk_p ?_)
                          refine j_iret dX11_says_211 rfl ?_
                          have hz : saysK Z q k = ((lossT Z.1 i), Z) := by
                            clear hQ
                            clear cv hM hS ok
                            have h01 := (okS.th hi).2.2.2
                            have hcl := nI_clamp (show i < 2 ^ 31 by omega)
                            have hin := i_ok hi (show nT Z.1 < 2 ^ 31 by omega)
                            have hone := one_all (q := q) (okS.th hi).1
                            have hsf := sfar_c (c := Z.1 12 i)
                            rw [← hp] at hin hcl
                            grind [saysK, cif, saysI, inZ, humT, lossT, may_1]
                          exact hQ _ _ ⟨by rw [hz], by rw [hz]; exact cv⟩
                        by_cases c217 : q = 6
                        · refine j_tableIn (tgt := 194) dX11_says_136 (by rw [c217]; decide) (by rw [c217]; decide) (off := 58) (by rw [c217]; decide) rfl ?_
                          refine j_aload_n 3 dX11_says_194 rfl ?_
                          refine j_iload_n 2 dX11_says_195 rfl ?_
                          refine j_aload_n 3 dX11_says_196 rfl ?_
                          refine j_getr (q := 4) dX11_says_197 fX11_35 (shM hM sgM_0) rfl (rfM hM rfM_0_12) ?_
                          refine j_iload_n 2 dX11_says_200 rfl ?_
                          refine j_ialdN i dX11_says_201 (shM hM sgM_4) (by omega) (by omega) ?_
                          refine j_topi (Z.1 12 i) (mr_arT hS (k := 2) (by omega) (by decide)) ?_
                          refine j_callV (kc := 0) (ks := 0) (a := 0) (b := 0) (d' := (d + 2)) (As := [.int (nI i), .int (Z.1 12 i)]) dX11_says_202 kX11_137 rfl (shM hM sgM_0) (by omega) rfl rfl rfl (Nat.le_of_ble_eq_true rfl) (Nat.le_of_ble_eq_true rfl) (T_X11_hums hM hS okS i (by omega) (Z.1 12 i) (isC_P okS (okS.th hi).2.2.1)) (kk_p ?_)
                          refine j_iret dX11_says_205 rfl ?_
                          have hz : saysK Z q k = ((humT Z.1 i (Z.1 12 i)), Z) := by
                            clear hQ
                            clear cv hM hS ok
                            have h01 := (okS.th hi).2.2.2
                            have hcl := nI_clamp (show i < 2 ^ 31 by omega)
                            have hin := i_ok hi (show nT Z.1 < 2 ^ 31 by omega)
                            have hone := one_all (q := q) (okS.th hi).1
                            have hsf := sfar_c (c := Z.1 12 i)
                            rw [← hp] at hin hcl
                            grind [saysK, cif, saysI, inZ, humT, lossT, may_1]
                          exact hQ _ _ ⟨by rw [hz], by rw [hz]; exact cv⟩
                        refine j_tableOut (tgt := 206) dX11_says_136 (by have q0 := lv_neT c211 (a := 0) (by decide); have q1 := lv_neT c212 (a := 1) (by decide); have q2 := lv_neT c213 (a := 2) (by decide); have q3 := lv_neT c214 (a := 3) (by decide); have q4 := lv_neT c215 (a := 4) (by decide); have q5 := lv_neT c216 (a := 5) (by decide); have q6 := lv_neT c217 (a := 6) (by decide); omega) rfl ?_
                        refine j_aload_n 3 dX11_says_206 rfl ?_
                        refine j_iload_n 2 dX11_says_207 rfl ?_
                        refine j_callV (kc := 0) (ks := 0) (a := 0) (b := 0) (d' := d) (As := [.int (nI i)]) dX11_says_208 kX11_141 rfl (shM hM sgM_0) (by omega) rfl rfl rfl (Nat.le_of_ble_eq_true rfl) (Nat.le_of_ble_eq_true rfl) (T_X11_loss hM hS okS i (by omega)) (kk_p ?_)
                        refine j_iret dX11_says_211 rfl ?_
                        have hz : saysK Z q k = ((lossT Z.1 i), Z) := by
                          clear hQ
                          clear cv hM hS ok
                          have h01 := (okS.th hi).2.2.2
                          have hcl := nI_clamp (show i < 2 ^ 31 by omega)
                          have hin := i_ok hi (show nT Z.1 < 2 ^ 31 by omega)
                          have hone := one_all (q := q) (okS.th hi).1
                          have hsf := sfar_c (c := Z.1 12 i)
                          rw [← hp] at hin hcl
                          grind [saysK, cif, saysI, inZ, humT, lossT, may_1]
                        exact hQ _ _ ⟨by rw [hz], by rw [hz]; exact cv⟩
                      · refine j_iload 0 dX11_says_123 rfl ?_
                        refine j_if_ne (tgt := 135) dX11_says_125 rfl (fun c218 => ?_) (fun c218 => ?_)
                        · exact absurd c218 (by decide)
                        · refine j_aload_n 3 dX11_says_128 rfl ?_
                          refine j_bipush (-2) dX11_says_129 bp_n2 ?_
                          refine j_callV (kc := 0) (ks := 0) (a := 0) (b := 0) (d' := d) (As := [.int (-2)]) dX11_says_131 kX11_130 rfl (shM hM sgM_0) (by omega) rfl rfl rfl (Nat.le_of_ble_eq_true rfl) (Nat.le_of_ble_eq_true rfl) (T_X11_no hM (-2) (by decide)) (kk_p ?_)
                          refine j_iret dX11_says_134 rfl ?_
                          have hz : saysK Z q k = ((-2), (refZ Z (-2))) := by
                            clear hQ
                            clear cv hM hS ok
                            have h01 := (okS.th hi).2.2.2
                            have hcl := nI_clamp (show i < 2 ^ 31 by omega)
                            have hin := i_ok hi (show nT Z.1 < 2 ^ 31 by omega)
                            have hone := one_all (q := q) (okS.th hi).1
                            have hsf := sfar_c (c := Z.1 12 i)
                            rw [← hp] at hin hcl
                            grind [saysK, cif, saysI, inZ, humT, lossT, may_1]
                          exact hQ _ _ ⟨by rw [hz], by rw [hz]; exact MV.rf cv (by decide)⟩
                  · refine j_iload 0 dX11_says_99 rfl ?_
                    refine j_bipush 6 dX11_says_101 bp_6 ?_
                    refine j_icmp_ne (tgt := 110) dX11_says_103 rfl (fun c219 => ?_) (fun c219 => ?_)
                    · refine j_iconst 0 dX11_says_110 ic_0 ?_
                      refine j_istore (L' := [(5, .int 0), (4, .int (Z.1 10 i)), (3, .int (nI i)), (0, .ref 0), (1, .int (nI k)), (2, .int q)]) dX11_says_111 (by decide) rfl ?_
                      refine j_iload_n 5 dX11_says_113 rfl ?_
                      refine j_if_eq (tgt := 135) dX11_says_114 rfl (fun c220 => ?_) (fun c220 => ?_)
                      · refine j_iload_n 5 dX11_says_135 rfl ?_
                        by_cases c222 : q = 0
                        · refine j_tableIn (tgt := 180) dX11_says_136 (by rw [c222]; decide) (by rw [c222]; decide) (off := 44) (by rw [c222]; decide) rfl ?_
                          refine j_aload_n 3 dX11_says_180 rfl ?_
                          refine j_getr (q := 4) dX11_says_181 fX11_35 (shM hM sgM_0) rfl (rfM hM rfM_0_12) ?_
                          refine j_iload_n 2 dX11_says_184 rfl ?_
                          refine j_ialdN i dX11_says_185 (shM hM sgM_4) (by omega) (by omega) ?_
                          refine j_topi (Z.1 12 i) (mr_arT hS (k := 2) (by omega) (by decide)) ?_
                          refine j_iret dX11_says_186 rfl ?_
                          have hz : saysK Z q k = ((Z.1 12 i), Z) := by
                            clear hQ
                            clear cv hM hS ok
                            have h01 := (okS.th hi).2.2.2
                            have hcl := nI_clamp (show i < 2 ^ 31 by omega)
                            have hin := i_ok hi (show nT Z.1 < 2 ^ 31 by omega)
                            have hone := one_all (q := q) (okS.th hi).1
                            have hsf := sfar_c (c := Z.1 12 i)
                            rw [← hp] at hin hcl
                            grind [saysK, cif, saysI, inZ, humT, lossT, may_1]
                          exact hQ _ _ ⟨by rw [hz], by rw [hz]; exact cv⟩
                        by_cases c223 : q = 1
                        · refine j_tableIn (tgt := 206) dX11_says_136 (by rw [c223]; decide) (by rw [c223]; decide) (off := 70) (by rw [c223]; decide) rfl ?_
                          refine j_aload_n 3 dX11_says_206 rfl ?_
                          refine j_iload_n 2 dX11_says_207 rfl ?_
                          refine j_callV (kc := 0) (ks := 0) (a := 0) (b := 0) (d' := d) (As := [.int (nI i)]) dX11_says_208 kX11_141 rfl (shM hM sgM_0) (by omega) rfl rfl rfl (Nat.le_of_ble_eq_true rfl) (Nat.le_of_ble_eq_true rfl) (T_X11_loss hM hS okS i (by omega)) (kk_p ?_)
                          refine j_iret dX11_says_211 rfl ?_
                          have hz : saysK Z q k = ((lossT Z.1 i), Z) := by
                            clear hQ
                            clear cv hM hS ok
                            have h01 := (okS.th hi).2.2.2
                            have hcl := nI_clamp (show i < 2 ^ 31 by omega)
                            have hin := i_ok hi (show nT Z.1 < 2 ^ 31 by omega)
                            have hone := one_all (q := q) (okS.th hi).1
                            have hsf := sfar_c (c := Z.1 12 i)
                            rw [← hp] at hin hcl
                            grind [saysK, cif, saysI, inZ, humT, lossT, may_1]
                          exact hQ _ _ ⟨by rw [hz], by rw [hz]; exact cv⟩
                        by_cases c224 : q = 2
                        · refine j_tableIn (tgt := 187) dX11_says_136 (by rw [c224]; decide) (by rw [c224]; decide) (off := 51) (by rw [c224]; decide) rfl ?_
                          refine j_aload_n 3 dX11_says_187 rfl ?_
                          refine j_getr (q := 5) dX11_says_188 fX11_38 (shM hM sgM_0) rfl (rfM hM rfM_0_13) ?_
                          refine j_iload_n 2 dX11_says_191 rfl ?_
                          refine j_ialdN i dX11_says_192 (shM hM sgM_5) (by omega) (by omega) ?_
                          refine j_topi (Z.1 13 i) (mr_arT hS (k := 3) (by omega) (by decide)) ?_
                          refine j_iret dX11_says_193 rfl ?_
                          have hz : saysK Z q k = ((Z.1 13 i), Z) := by
                            clear hQ
                            clear cv hM hS ok
                            have h01 := (okS.th hi).2.2.2
                            have hcl := nI_clamp (show i < 2 ^ 31 by omega)
                            have hin := i_ok hi (show nT Z.1 < 2 ^ 31 by omega)
                            have hone := one_all (q := q) (okS.th hi).1
                            have hsf := sfar_c (c := Z.1 12 i)
                            rw [← hp] at hin hcl
                            grind [saysK, cif, saysI, inZ, humT, lossT, may_1]
                          exact hQ _ _ ⟨by rw [hz], by rw [hz]; exact cv⟩
                        by_cases c225 : q = 3
                        · refine j_tableIn (tgt := 206) dX11_says_136 (by rw [c225]; decide) (by rw [c225]; decide) (off := 70) (by rw [c225]; decide) rfl ?_
                          refine j_aload_n 3 dX11_says_206 rfl ?_
                          refine j_iload_n 2 dX11_says_207 rfl ?_
                          refine j_callV (kc := 0) (ks := 0) (a := 0) (b := 0) (d' := d) (As := [.int (nI i)]) dX11_says_208 kX11_141 rfl (shM hM sgM_0) (by omega) rfl rfl rfl (Nat.le_of_ble_eq_true rfl) (Nat.le_of_ble_eq_true rfl) (T_X11_loss hM hS okS i (by omega)) (kk_p ?_)
                          refine j_iret dX11_says_211 rfl ?_
                          have hz : saysK Z q k = ((lossT Z.1 i), Z) := by
                            clear hQ
                            clear cv hM hS ok
                            have h01 := (okS.th hi).2.2.2
                            have hcl := nI_clamp (show i < 2 ^ 31 by omega)
                            have hin := i_ok hi (show nT Z.1 < 2 ^ 31 by omega)
                            have hone := one_all (q := q) (okS.th hi).1
                            have hsf := sfar_c (c := Z.1 12 i)
                            rw [← hp] at hin hcl
                            grind [saysK, cif, saysI, inZ, humT, lossT, may_1]
                          exact hQ _ _ ⟨by rw [hz], by rw [hz]; exact cv⟩
                        by_cases c226 : q = 4
                        · refine j_tableIn (tgt := 194) dX11_says_136 (by rw [c226]; decide) (by rw [c226]; decide) (off := 58) (by rw [c226]; decide) rfl ?_
                          refine j_aload_n 3 dX11_says_194 rfl ?_
                          refine j_iload_n 2 dX11_says_195 rfl ?_
                          refine j_aload_n 3 dX11_says_196 rfl ?_
                          refine j_getr (q := 4) dX11_says_197 fX11_35 (shM hM sgM_0) rfl (rfM hM rfM_0_12) ?_
                          refine j_iload_n 2 dX11_says_200 rfl ?_
                          refine j_ialdN i dX11_says_201 (shM hM sgM_4) (by omega) (by omega) ?_
                          refine j_topi (Z.1 12 i) (mr_arT hS (k := 2) (by omega) (by decide)) ?_
                          refine j_callV (kc := 0) (ks := 0) (a := 0) (b := 0) (d' := (d + 2)) (As := [.int (nI i), .int (Z.1 12 i)]) dX11_says_202 kX11_137 rfl (shM hM sgM_0) (by omega) rfl rfl rfl (Nat.le_of_ble_eq_true rfl) (Nat.le_of_ble_eq_true rfl) (T_X11_hums hM hS okS i (by omega) (Z.1 12 i) (isC_P okS (okS.th hi).2.2.1)) (kk_p ?_)
                          refine j_iret dX11_says_205 rfl ?_
                          have hz : saysK Z q k = ((humT Z.1 i (Z.1 12 i)), Z) := by
                            clear hQ
                            clear cv hM hS ok
                            have h01 := (okS.th hi).2.2.2
                            have hcl := nI_clamp (show i < 2 ^ 31 by omega)
                            have hin := i_ok hi (show nT Z.1 < 2 ^ 31 by omega)
                            have hone := one_all (q := q) (okS.th hi).1
                            have hsf := sfar_c (c := Z.1 12 i)
                            rw [← hp] at hin hcl
                            grind [saysK, cif, saysI, inZ, humT, lossT, may_1]
                          exact hQ _ _ ⟨by rw [hz], by rw [hz]; exact cv⟩
                        by_cases c227 : q = 5
                        · refine j_tableIn (tgt := 206) dX11_says_136 (by rw [c227]; decide) (by rw [c227]; decide) (off := 70) (by rw [c227]; decide) rfl ?_
                          refine j_aload_n 3 dX11_says_206 rfl ?_
                          refine j_iload_n 2 dX11_says_207 rfl ?_
                          refine j_callV (kc := 0) (ks := 0) (a := 0) (b := 0) (d' := d) (As := [.int (nI i)]) dX11_says_208 kX11_141 rfl (shM hM sgM_0) (by omega) rfl rfl rfl (Nat.le_of_ble_eq_true rfl) (Nat.le_of_ble_eq_true rfl) (T_X11_loss hM hS okS i (by omega)) (kk_p ?_)
                          refine j_iret dX11_says_211 rfl ?_
                          have hz : saysK Z q k = ((lossT Z.1 i), Z) := by
                            clear hQ
                            clear cv hM hS ok
                            have h01 := (okS.th hi).2.2.2
                            have hcl := nI_clamp (show i < 2 ^ 31 by omega)
                            have hin := i_ok hi (show nT Z.1 < 2 ^ 31 by omega)
                            have hone := one_all (q := q) (okS.th hi).1
                            have hsf := sfar_c (c := Z.1 12 i)
                            rw [← hp] at hin hcl
                            grind [saysK, cif, saysI, inZ, humT, lossT, may_1]
                          exact hQ _ _ ⟨by rw [hz], by rw [hz]; exact cv⟩
                        by_cases c228 : q = 6
                        · refine j_tableIn (tgt := 194) dX11_says_136 (by rw [c228]; decide) (by rw [c228]; decide) (off := 58) (by rw [c228]; decide) rfl ?_
                          refine j_aload_n 3 dX11_says_194 rfl ?_
                          refine j_iload_n 2 dX11_says_195 rfl ?_
                          refine j_aload_n 3 dX11_says_196 rfl ?_
                          refine j_getr (q := 4) dX11_says_197 fX11_35 (shM hM sgM_0) rfl (rfM hM rfM_0_12) ?_
                          refine j_iload_n 2 dX11_says_200 rfl ?_
                          refine j_ialdN i dX11_says_201 (shM hM sgM_4) (by omega) (by omega) ?_
                          refine j_topi (Z.1 12 i) (mr_arT hS (k := 2) (by omega) (by decide)) ?_
                          refine j_callV (kc := 0) (ks := 0) (a := 0) (b := 0) (d' := (d + 2)) (As := [.int (nI i), .int (Z.1 12 i)]) dX11_says_202 kX11_137 rfl (shM hM sgM_0) (by omega) rfl rfl rfl (Nat.le_of_ble_eq_true rfl) (Nat.le_of_ble_eq_true rfl) (T_X11_hums hM hS okS i (by omega) (Z.1 12 i) (isC_P okS (okS.th hi).2.2.1)) (kk_p ?_)
                          refine j_iret dX11_says_205 rfl ?_
                          have hz : saysK Z q k = ((humT Z.1 i (Z.1 12 i)), Z) := by
                            clear hQ
                            clear cv hM hS ok
                            have h01 := (okS.th hi).2.2.2
                            have hcl := nI_clamp (show i < 2 ^ 31 by omega)
                            have hin := i_ok hi (show nT Z.1 < 2 ^ 31 by omega)
                            have hone := one_all (q := q) (okS.th hi).1
                            have hsf := sfar_c (c := Z.1 12 i)
                            rw [← hp] at hin hcl
                            grind [saysK, cif, saysI, inZ, humT, lossT, may_1]
                          exact hQ _ _ ⟨by rw [hz], by rw [hz]; exact cv⟩
                        refine j_tableOut (tgt := 206) dX11_says_136 (by have q0 := lv_neT c222 (a := 0) (by decide); have q1 := lv_neT c223 (a := 1) (by decide); have q2 := lv_neT c224 (a := 2) (by decide); have q3 := lv_neT c225 (a := 3) (by decide); have q4 := lv_neT c226 (a := 4) (by decide); have q5 := lv_neT c227 (a := 5) (by decide); have q6 := lv_neT c228 (a := 6) (by decide); omega) rfl ?_
                        refine j_aload_n 3 dX11_says_206 rfl ?_
                        refine j_iload_n 2 dX11_says_207 rfl ?_
                        refine j_callV (kc := 0) (ks := 0) (a := 0) (b := 0) (d' := d) (As := [.int (nI i)]) dX11_says_208 kX11_141 rfl (shM hM sgM_0) (by omega) rfl rfl rfl (Nat.le_of_ble_eq_true rfl) (Nat.le_of_ble_eq_true rfl) (T_X11_loss hM hS okS i (by omega)) (kk_p ?_)
                        refine j_iret dX11_says_211 rfl ?_
                        have hz : saysK Z q k = ((lossT Z.1 i), Z) := by
                          clear hQ
                          clear cv hM hS ok
                          have h01 := (okS.th hi).2.2.2
                          have hcl := nI_clamp (show i < 2 ^ 31 by omega)
                          have hin := i_ok hi (show nT Z.1 < 2 ^ 31 by omega)
                          have hone := one_all (q := q) (okS.th hi).1
                          have hsf := sfar_c (c := Z.1 12 i)
                          rw [← hp] at hin hcl
                          grind [saysK, cif, saysI, inZ, humT, lossT, may_1]
                        exact hQ _ _ ⟨by rw [hz], by rw [hz]; exact cv⟩
                      · refine j_iload_n 5 dX11_says_117 rfl ?_
                        refine j_iload 1 dX11_says_118 rfl ?_
                        refine j_icmp_eq (tgt := 135) dX11_says_120 rfl (fun c229 => ?_) (fun c229 => ?_)
                        · refine j_iload_n 5 dX11_says_135 rfl ?_
                          by_cases c231 : q = 0
                          · refine j_tableIn (tgt := 180) dX11_says_136 (by rw [c231]; decide) (by rw [c231]; decide) (off := 44) (by rw [c231]; decide) rfl ?_
                            refine j_aload_n 3 dX11_says_180 rfl ?_
                            refine j_getr (q := 4) dX11_says_181 fX11_35 (shM hM sgM_0) rfl (rfM hM rfM_0_12) ?_
                            refine j_iload_n 2 dX11_says_184 rfl ?_
                            refine j_ialdN i dX11_says_185 (shM hM sgM_4) (by omega) (by omega) ?_
                            refine j_topi (Z.1 12 i) (mr_arT hS (k := 2) (by omega) (by decide)) ?_
                            refine j_iret dX11_says_186 rfl ?_
                            have hz : saysK Z q k = ((Z.1 12 i), Z) := by
                              clear hQ
                              clear cv hM hS ok
                              have h01 := (okS.th hi).2.2.2
                              have hcl := nI_clamp (show i < 2 ^ 31 by omega)
                              have hin := i_ok hi (show nT Z.1 < 2 ^ 31 by omega)
                              have hone := one_all (q := q) (okS.th hi).1
                              have hsf := sfar_c (c := Z.1 12 i)
                              rw [← hp] at hin hcl
                              grind [saysK, cif, saysI, inZ, humT, lossT, may_1]
                            exact hQ _ _ ⟨by rw [hz], by rw [hz]; exact cv⟩
                          by_cases c232 : q = 1
                          · refine j_tableIn (tgt := 206) dX11_says_136 (by rw [c232]; decide) (by rw [c232]; decide) (off := 70) (by rw [c232]; decide) rfl ?_
                            refine j_aload_n 3 dX11_says_206 rfl ?_
                            refine j_iload_n 2 dX11_says_207 rfl ?_
                            refine j_callV (kc := 0) (ks := 0) (a := 0) (b := 0) (d' := d) (As := [.int (nI i)]) dX11_says_208 kX11_141 rfl (shM hM sgM_0) (by omega) rfl rfl rfl (Nat.le_of_ble_eq_true rfl) (Nat.le_of_ble_eq_true rfl) (T_X11_loss hM hS okS i (by omega)) (kk_p ?_)
                            refine j_iret dX11_says_211 rfl ?_
                            have hz : saysK Z q k = ((lossT Z.1 i), Z) := by
                              clear hQ
                              clear cv hM hS ok
                              have h01 := (okS.th hi).2.2.2
                              have hcl := nI_clamp (show i < 2 ^ 31 by omega)
                              have hin := i_ok hi (show nT Z.1 < 2 ^ 31 by omega)
                              have hone := one_all (q := q) (okS.th hi).1
                              have hsf := sfar_c (c := Z.1 12 i)
                              rw [← hp] at hin hcl
                              grind [saysK, cif, saysI, inZ, humT, lossT, may_1]
                            exact hQ _ _ ⟨by rw [hz], by rw [hz]; exact cv⟩
                          by_cases c233 : q = 2
                          · refine j_tableIn (tgt := 187) dX11_says_136 (by rw [c233]; decide) (by rw [c233]; decide) (off := 51) (by rw [c233]; decide) rfl ?_
                            refine j_aload_n 3 dX11_says_187 rfl ?_
                            refine j_getr (q := 5) dX11_says_188 fX11_38 (shM hM sgM_0) rfl (rfM hM rfM_0_13) ?_
                            refine j_iload_n 2 dX11_says_191 rfl ?_
                            refine j_ialdN i dX11_says_192 (shM hM sgM_5) (by omega) (by omega) ?_
                            refine j_topi (Z.1 13 i) (mr_arT hS (k := 3) (by omega) (by decide)) ?_
                            refine j_iret dX11_says_193 rfl ?_
                            have hz : saysK Z q k = ((Z.1 13 i), Z) := by
                              clear hQ
                              clear cv hM hS ok
                              have h01 := (okS.th hi).2.2.2
                              have hcl := nI_clamp (show i < 2 ^ 31 by omega)
                              have hin := i_ok hi (show nT Z.1 < 2 ^ 31 by omega)
                              have hone := one_all (q := q) (okS.th hi).1
                              have hsf := sfar_c (c := Z.1 12 i)
                              rw [← hp] at hin hcl
                              grind [saysK, cif, saysI, inZ, humT, lossT, may_1]
                            exact hQ _ _ ⟨by rw [hz], by rw [hz]; exact cv⟩
                          by_cases c234 : q = 3
                          · refine j_tableIn (tgt := 206) dX11_says_136 (by rw [c234]; decide) (by rw [c234]; decide) (off := 70) (by rw [c234]; decide) rfl ?_
                            refine j_aload_n 3 dX11_says_206 rfl ?_
                            refine j_iload_n 2 dX11_says_207 rfl ?_
                            refine j_callV (kc := 0) (ks := 0) (a := 0) (b := 0) (d' := d) (As := [.int (nI i)]) dX11_says_208 kX11_141 rfl (shM hM sgM_0) (by omega) rfl rfl rfl (Nat.le_of_ble_eq_true rfl) (Nat.le_of_ble_eq_true rfl) (T_X11_loss hM hS okS i (by omega)) (kk_p ?_)
                            refine j_iret dX11_says_211 rfl ?_
                            have hz : saysK Z q k = ((lossT Z.1 i), Z) := by
                              clear hQ
                              clear cv hM hS ok
                              have h01 := (okS.th hi).2.2.2
                              have hcl := nI_clamp (show i < 2 ^ 31 by omega)
                              have hin := i_ok hi (show nT Z.1 < 2 ^ 31 by omega)
                              have hone := one_all (q := q) (okS.th hi).1
                              have hsf := sfar_c (c := Z.1 12 i)
                              rw [← hp] at hin hcl
                              grind [saysK, cif, saysI, inZ, humT, lossT, may_1]
                            exact hQ _ _ ⟨by rw [hz], by rw [hz]; exact cv⟩
                          by_cases c235 : q = 4
                          · refine j_tableIn (tgt := 194) dX11_says_136 (by rw [c235]; decide) (by rw [c235]; decide) (off := 58) (by rw [c235]; decide) rfl ?_
                            refine j_aload_n 3 dX11_says_194 rfl ?_
                            refine j_iload_n 2 dX11_says_195 rfl ?_
                            refine j_aload_n 3 dX11_says_196 rfl ?_
                            refine j_getr (q := 4) dX11_says_197 fX11_35 (shM hM sgM_0) rfl (rfM hM rfM_0_12) ?_
                            refine j_iload_n 2 dX11_says_200 rfl ?_
                            refine j_ialdN i dX11_says_201 (shM hM sgM_4) (by omega) (by omega) ?_
                            refine j_topi (Z.1 12 i) (mr_arT hS (k := 2) (by omega) (by decide)) ?_
                            refine j_callV (kc := 0) (ks := 0) (a := 0) (b := 0) (d' := (d + 2)) (As := [.int (nI i), .int (Z.1 12 i)]) dX11_says_202 kX11_137 rfl (shM hM sgM_0) (by omega) rfl rfl rfl (Nat.le_of_ble_eq_true rfl) (Nat.le_of_ble_eq_true rfl) (T_X11_hums hM hS okS i (by omega) (Z.1 12 i) (isC_P okS (okS.th hi).2.2.1)) (kk_p ?_)
                            refine j_iret dX11_says_205 rfl ?_
                            have hz : saysK Z q k = ((humT Z.1 i (Z.1 12 i)), Z) := by
                              clear hQ
                              clear cv hM hS ok
                              have h01 := (okS.th hi).2.2.2
                              have hcl := nI_clamp (show i < 2 ^ 31 by omega)
                              have hin := i_ok hi (show nT Z.1 < 2 ^ 31 by omega)
                              have hone := one_all (q := q) (okS.th hi).1
                              have hsf := sfar_c (c := Z.1 12 i)
                              rw [← hp] at hin hcl
                              grind [saysK, cif, saysI, inZ, humT, lossT, may_1]
                            exact hQ _ _ ⟨by rw [hz], by rw [hz]; exact cv⟩
                          by_cases c236 : q = 5
                          · refine j_tableIn (tgt := 206) dX11_says_136 (by rw [c236]; decide) (by rw [c236]; decide) (off := 70) (by rw [c236]; decide) rfl ?_
                            refine j_aload_n 3 dX11_says_206 rfl ?_
                            refine j_iload_n 2 dX11_says_207 rfl ?_
                            refine j_callV (kc := 0) (ks := 0) (a := 0) (b := 0) (d' := d) (As := [.int (nI i)]) dX11_says_208 kX11_141 rfl (shM hM sgM_0) (by omega) rfl rfl rfl (Nat.le_of_ble_eq_true rfl) (Nat.le_of_ble_eq_true rfl) (T_X11_loss hM hS okS i (by omega)) (kk_p ?_)
                            refine j_iret dX11_says_211 rfl ?_
                            have hz : saysK Z q k = ((lossT Z.1 i), Z) := by
                              clear hQ
                              clear cv hM hS ok
                              have h01 := (okS.th hi).2.2.2
                              have hcl := nI_clamp (show i < 2 ^ 31 by omega)
                              have hin := i_ok hi (show nT Z.1 < 2 ^ 31 by omega)
                              have hone := one_all (q := q) (okS.th hi).1
                              have hsf := sfar_c (c := Z.1 12 i)
                              rw [← hp] at hin hcl
                              grind [saysK, cif, saysI, inZ, humT, lossT, may_1]
                            exact hQ _ _ ⟨by rw [hz], by rw [hz]; exact cv⟩
                          by_cases c237 : q = 6
                          · refine j_tableIn (tgt := 194) dX11_says_136 (by rw [c237]; decide) (by rw [c237]; decide) (off := 58) (by rw [c237]; decide) rfl ?_
                            refine j_aload_n 3 dX11_says_194 rfl ?_
                            refine j_iload_n 2 dX11_says_195 rfl ?_
                            refine j_aload_n 3 dX11_says_196 rfl ?_
                            refine j_getr (q := 4) dX11_says_197 fX11_35 (shM hM sgM_0) rfl (rfM hM rfM_0_12) ?_
                            refine j_iload_n 2 dX11_says_200 rfl ?_
                            refine j_ialdN i dX11_says_201 (shM hM sgM_4) (by omega) (by omega) ?_
                            refine j_topi (Z.1 12 i) (mr_arT hS (k := 2) (by omega) (by decide)) ?_
                            refine j_callV (kc := 0) (ks := 0) (a := 0) (b := 0) (d' := (d + 2)) (As := [.int (nI i), .int (Z.1 12 i)]) dX11_says_202 kX11_137 rfl (shM hM sgM_0) (by omega) rfl rfl rfl (Nat.le_of_ble_eq_true rfl) (Nat.le_of_ble_eq_true rfl) (T_X11_hums hM hS okS i (by omega) (Z.1 12 i) (isC_P okS (okS.th hi).2.2.1)) (kk_p ?_)
                            refine j_iret dX11_says_205 rfl ?_
                            have hz : saysK Z q k = ((humT Z.1 i (Z.1 12 i)), Z) := by
                              clear hQ
                              clear cv hM hS ok
                              have h01 := (okS.th hi).2.2.2
                              have hcl := nI_clamp (show i < 2 ^ 31 by omega)
                              have hin := i_ok hi (show nT Z.1 < 2 ^ 31 by omega)
                              have hone := one_all (q := q) (okS.th hi).1
                              have hsf := sfar_c (c := Z.1 12 i)
                              rw [← hp] at hin hcl
                              grind [saysK, cif, saysI, inZ, humT, lossT, may_1]
                            exact hQ _ _ ⟨by rw [hz], by rw [hz]; exact cv⟩
                          refine j_tableOut (tgt := 206) dX11_says_136 (by have q0 := lv_neT c231 (a := 0) (by decide); have q1 := lv_neT c232 (a := 1) (by decide); have q2 := lv_neT c233 (a := 2) (by decide); have q3 := lv_neT c234 (a := 3) (by decide); have q4 := lv_neT c235 (a := 4) (by decide); have q5 := lv_neT c236 (a := 5) (by decide); have q6 := lv_neT c237 (a := 6) (by decide); omega) rfl ?_
                          refine j_aload_n 3 dX11_says_206 rfl ?_
                          refine j_iload_n 2 dX11_says_207 rfl ?_
                          refine j_callV (kc := 0) (ks := 0) (a := 0) (b := 0) (d' := d) (As := [.int (nI i)]) dX11_says_208 kX11_141 rfl (shM hM sgM_0) (by omega) rfl rfl rfl (Nat.le_of_ble_eq_true rfl) (Nat.le_of_ble_eq_true rfl) (T_X11_loss hM hS okS i (by omega)) (kk_p ?_)
                          refine j_iret dX11_says_211 rfl ?_
                          have hz : saysK Z q k = ((lossT Z.1 i), Z) := by
                            clear hQ
                            clear cv hM hS ok
                            have h01 := (okS.th hi).2.2.2
                            have hcl := nI_clamp (show i < 2 ^ 31 by omega)
                            have hin := i_ok hi (show nT Z.1 < 2 ^ 31 by omega)
                            have hone := one_all (q := q) (okS.th hi).1
                            have hsf := sfar_c (c := Z.1 12 i)
                            rw [← hp] at hin hcl
                            grind [saysK, cif, saysI, inZ, humT, lossT, may_1]
                          exact hQ _ _ ⟨by rw [hz], by rw [hz]; exact cv⟩
                        · refine j_iload 0 dX11_says_123 rfl ?_
                          refine j_if_ne (tgt := 135) dX11_says_125 rfl (fun c238 => ?_) (fun c238 => ?_)
                          · exact absurd c238 (by decide)
                          · refine j_aload_n 3 dX11_says_128 rfl ?_
                            refine j_bipush (-2) dX11_says_129 bp_n2 ?_
                            refine j_callV (kc := 0) (ks := 0) (a := 0) (b := 0) (d' := d) (As := [.int (-2)]) dX11_says_131 kX11_130 rfl (shM hM sgM_0) (by omega) rfl rfl rfl (Nat.le_of_ble_eq_true rfl) (Nat.le_of_ble_eq_true rfl) (T_X11_no hM (-2) (by decide)) (kk_p ?_)
                            refine j_iret dX11_says_134 rfl ?_
                            have hz : saysK Z q k = ((-2), (refZ Z (-2))) := by
                              clear hQ
                              clear cv hM hS ok
                              have h01 := (okS.th hi).2.2.2
                              have hcl := nI_clamp (show i < 2 ^ 31 by omega)
                              have hin := i_ok hi (show nT Z.1 < 2 ^ 31 by omega)
                              have hone := one_all (q := q) (okS.th hi).1
                              have hsf := sfar_c (c := Z.1 12 i)
                              rw [← hp] at hin hcl
                              grind [saysK, cif, saysI, inZ, humT, lossT, may_1]
                            exact hQ _ _ ⟨by rw [hz], by rw [hz]; exact MV.rf cv (by decide)⟩
                    · refine j_iconst 1 dX11_says_106 ic_1 ?_
                      refine j_goto (tgt := 111) dX11_says_107 rfl ?_
                      refine j_istore (L' := [(5, .int 1), (4, .int (Z.1 10 i)), (3, .int (nI i)), (0, .ref 0), (1, .int (nI k)), (2, .int q)]) dX11_says_111 (by decide) rfl ?_
                      refine j_iload_n 5 dX11_says_113 rfl ?_
                      refine j_if_eq (tgt := 135) dX11_says_114 rfl (fun c239 => ?_) (fun c239 => ?_)
                      · refine j_iload_n 5 dX11_says_135 rfl ?_
                        by_cases c241 : q = 0
                        · refine j_tableIn (tgt := 180) dX11_says_136 (by rw [c241]; decide) (by rw [c241]; decide) (off := 44) (by rw [c241]; decide) rfl ?_
                          refine j_aload_n 3 dX11_says_180 rfl ?_
                          refine j_getr (q := 4) dX11_says_181 fX11_35 (shM hM sgM_0) rfl (rfM hM rfM_0_12) ?_
                          refine j_iload_n 2 dX11_says_184 rfl ?_
                          refine j_ialdN i dX11_says_185 (shM hM sgM_4) (by omega) (by omega) ?_
                          refine j_topi (Z.1 12 i) (mr_arT hS (k := 2) (by omega) (by decide)) ?_
                          refine j_iret dX11_says_186 rfl ?_
                          have hz : saysK Z q k = ((Z.1 12 i), Z) := by
                            clear hQ
                            clear cv hM hS ok
                            have h01 := (okS.th hi).2.2.2
                            have hcl := nI_clamp (show i < 2 ^ 31 by omega)
                            have hin := i_ok hi (show nT Z.1 < 2 ^ 31 by omega)
                            have hone := one_all (q := q) (okS.th hi).1
                            have hsf := sfar_c (c := Z.1 12 i)
                            rw [← hp] at hin hcl
                            grind [saysK, cif, saysI, inZ, humT, lossT, may_1]
                          exact hQ _ _ ⟨by rw [hz], by rw [hz]; exact cv⟩
                        by_cases c242 : q = 1
                        · refine j_tableIn (tgt := 206) dX11_says_136 (by rw [c242]; decide) (by rw [c242]; decide) (off := 70) (by rw [c242]; decide) rfl ?_
                          refine j_aload_n 3 dX11_says_206 rfl ?_
                          refine j_iload_n 2 dX11_says_207 rfl ?_
                          refine j_callV (kc := 0) (ks := 0) (a := 0) (b := 0) (d' := d) (As := [.int (nI i)]) dX11_says_208 kX11_141 rfl (shM hM sgM_0) (by omega) rfl rfl rfl (Nat.le_of_ble_eq_true rfl) (Nat.le_of_ble_eq_true rfl) (T_X11_loss hM hS okS i (by omega)) (kk_p ?_)
                          refine j_iret dX11_says_211 rfl ?_
                          have hz : saysK Z q k = ((lossT Z.1 i), Z) := by
                            clear hQ
                            clear cv hM hS ok
                            have h01 := (okS.th hi).2.2.2
                            have hcl := nI_clamp (show i < 2 ^ 31 by omega)
                            have hin := i_ok hi (show nT Z.1 < 2 ^ 31 by omega)
                            have hone := one_all (q := q) (okS.th hi).1
                            have hsf := sfar_c (c := Z.1 12 i)
                            rw [← hp] at hin hcl
                            grind [saysK, cif, saysI, inZ, humT, lossT, may_1]
                          exact hQ _ _ ⟨by rw [hz], by rw [hz]; exact cv⟩
                        by_cases c243 : q = 2
                        · refine j_tableIn (tgt := 187) dX11_says_136 (by rw [c243]; decide) (by rw [c243]; decide) (off := 51) (by rw [c243]; decide) rfl ?_
                          refine j_aload_n 3 dX11_says_187 rfl ?_
                          refine j_getr (q := 5) dX11_says_188 fX11_38 (shM hM sgM_0) rfl (rfM hM rfM_0_13) ?_
                          refine j_iload_n 2 dX11_says_191 rfl ?_
                          refine j_ialdN i dX11_says_192 (shM hM sgM_5) (by omega) (by omega) ?_
                          refine j_topi (Z.1 13 i) (mr_arT hS (k := 3) (by omega) (by decide)) ?_
                          refine j_iret dX11_says_193 rfl ?_
                          have hz : saysK Z q k = ((Z.1 13 i), Z) := by
                            clear hQ
                            clear cv hM hS ok
                            have h01 := (okS.th hi).2.2.2
                            have hcl := nI_clamp (show i < 2 ^ 31 by omega)
                            have hin := i_ok hi (show nT Z.1 < 2 ^ 31 by omega)
                            have hone := one_all (q := q) (okS.th hi).1
                            have hsf := sfar_c (c := Z.1 12 i)
                            rw [← hp] at hin hcl
                            grind [saysK, cif, saysI, inZ, humT, lossT, may_1]
                          exact hQ _ _ ⟨by rw [hz], by rw [hz]; exact cv⟩
                        by_cases c244 : q = 3
                        · refine j_tableIn (tgt := 206) dX11_says_136 (by rw [c244]; decide) (by rw [c244]; decide) (off := 70) (by rw [c244]; decide) rfl ?_
                          refine j_aload_n 3 dX11_says_206 rfl ?_
                          refine j_iload_n 2 dX11_says_207 rfl ?_
                          refine j_callV (kc := 0) (ks := 0) (a := 0) (b := 0) (d' := d) (As := [.int (nI i)]) dX11_says_208 kX11_141 rfl (shM hM sgM_0) (by omega) rfl rfl rfl (Nat.le_of_ble_eq_true rfl) (Nat.le_of_ble_eq_true rfl) (T_X11_loss hM hS okS i (by omega)) (kk_p ?_)
                          refine j_iret dX11_says_211 rfl ?_
                          have hz : saysK Z q k = ((lossT Z.1 i), Z) := by
                            clear hQ
                            clear cv hM hS ok
                            have h01 := (okS.th hi).2.2.2
                            have hcl := nI_clamp (show i < 2 ^ 31 by omega)
                            have hin := i_ok hi (show nT Z.1 < 2 ^ 31 by omega)
                            have hone := one_all (q := q) (okS.th hi).1
                            have hsf := sfar_c (c := Z.1 12 i)
                            rw [← hp] at hin hcl
                            grind [saysK, cif, saysI, inZ, humT, lossT, may_1]
                          exact hQ _ _ ⟨by rw [hz], by rw [hz]; exact cv⟩
                        by_cases c245 : q = 4
                        · refine j_tableIn (tgt := 194) dX11_says_136 (by rw [c245]; decide) (by rw [c245]; decide) (off := 58) (by rw [c245]; decide) rfl ?_
                          refine j_aload_n 3 dX11_says_194 rfl ?_
                          refine j_iload_n 2 dX11_says_195 rfl ?_
                          refine j_aload_n 3 dX11_says_196 rfl ?_
                          refine j_getr (q := 4) dX11_says_197 fX11_35 (shM hM sgM_0) rfl (rfM hM rfM_0_12) ?_
                          refine j_iload_n 2 dX11_says_200 rfl ?_
                          refine j_ialdN i dX11_says_201 (shM hM sgM_4) (by omega) (by omega) ?_
                          refine j_topi (Z.1 12 i) (mr_arT hS (k := 2) (by omega) (by decide)) ?_
                          refine j_callV (kc := 0) (ks := 0) (a := 0) (b := 0) (d' := (d + 2)) (As := [.int (nI i), .int (Z.1 12 i)]) dX11_says_202 kX11_137 rfl (shM hM sgM_0) (by omega) rfl rfl rfl (Nat.le_of_ble_eq_true rfl) (Nat.le_of_ble_eq_true rfl) (T_X11_hums hM hS okS i (by omega) (Z.1 12 i) (isC_P okS (okS.th hi).2.2.1)) (kk_p ?_)
                          refine j_iret dX11_says_205 rfl ?_
                          have hz : saysK Z q k = ((humT Z.1 i (Z.1 12 i)), Z) := by
                            clear hQ
                            clear cv hM hS ok
                            have h01 := (okS.th hi).2.2.2
                            have hcl := nI_clamp (show i < 2 ^ 31 by omega)
                            have hin := i_ok hi (show nT Z.1 < 2 ^ 31 by omega)
                            have hone := one_all (q := q) (okS.th hi).1
                            have hsf := sfar_c (c := Z.1 12 i)
                            rw [← hp] at hin hcl
                            grind [saysK, cif, saysI, inZ, humT, lossT, may_1]
                          exact hQ _ _ ⟨by rw [hz], by rw [hz]; exact cv⟩
                        by_cases c246 : q = 5
                        · refine j_tableIn (tgt := 206) dX11_says_136 (by rw [c246]; decide) (by rw [c246]; decide) (off := 70) (by rw [c246]; decide) rfl ?_
                          refine j_aload_n 3 dX11_says_206 rfl ?_
                          refine j_iload_n 2 dX11_says_207 rfl ?_
                          refine j_callV (kc := 0) (ks := 0) (a := 0) (b := 0) (d' := d) (As := [.int (nI i)]) dX11_says_208 kX11_141 rfl (shM hM sgM_0) (by omega) rfl rfl rfl (Nat.le_of_ble_eq_true rfl) (Nat.le_of_ble_eq_true rfl) (T_X11_loss hM hS okS i (by omega)) (kk_p ?_)
                          refine j_iret dX11_says_211 rfl ?_
                          have hz : saysK Z q k = ((lossT Z.1 i), Z) := by
                            clear hQ
                            clear cv hM hS ok
                            have h01 := (okS.th hi).2.2.2
                            have hcl := nI_clamp (show i < 2 ^ 31 by omega)
                            have hin := i_ok hi (show nT Z.1 < 2 ^ 31 by omega)
                            have hone := one_all (q := q) (okS.th hi).1
                            have hsf := sfar_c (c := Z.1 12 i)
                            rw [← hp] at hin hcl
                            grind [saysK, cif, saysI, inZ, humT, lossT, may_1]
                          exact hQ _ _ ⟨by rw [hz], by rw [hz]; exact cv⟩
                        by_cases c247 : q = 6
                        · refine j_tableIn (tgt := 194) dX11_says_136 (by rw [c247]; decide) (by rw [c247]; decide) (off := 58) (by rw [c247]; decide) rfl ?_
                          refine j_aload_n 3 dX11_says_194 rfl ?_
                          refine j_iload_n 2 dX11_says_195 rfl ?_
                          refine j_aload_n 3 dX11_says_196 rfl ?_
                          refine j_getr (q := 4) dX11_says_197 fX11_35 (shM hM sgM_0) rfl (rfM hM rfM_0_12) ?_
                          refine j_iload_n 2 dX11_says_200 rfl ?_
                          refine j_ialdN i dX11_says_201 (shM hM sgM_4) (by omega) (by omega) ?_
                          refine j_topi (Z.1 12 i) (mr_arT hS (k := 2) (by omega) (by decide)) ?_
                          refine j_callV (kc := 0) (ks := 0) (a := 0) (b := 0) (d' := (d + 2)) (As := [.int (nI i), .int (Z.1 12 i)]) dX11_says_202 kX11_137 rfl (shM hM sgM_0) (by omega) rfl rfl rfl (Nat.le_of_ble_eq_true rfl) (Nat.le_of_ble_eq_true rfl) (T_X11_hums hM hS okS i (by omega) (Z.1 12 i) (isC_P okS (okS.th hi).2.2.1)) (kk_p ?_)
                          refine j_iret dX11_says_205 rfl ?_
                          have hz : saysK Z q k = ((humT Z.1 i (Z.1 12 i)), Z) := by
                            clear hQ
                            clear cv hM hS ok
                            have h01 := (okS.th hi).2.2.2
                            have hcl := nI_clamp (show i < 2 ^ 31 by omega)
                            have hin := i_ok hi (show nT Z.1 < 2 ^ 31 by omega)
                            have hone := one_all (q := q) (okS.th hi).1
                            have hsf := sfar_c (c := Z.1 12 i)
                            rw [← hp] at hin hcl
                            grind [saysK, cif, saysI, inZ, humT, lossT, may_1]
                          exact hQ _ _ ⟨by rw [hz], by rw [hz]; exact cv⟩
                        refine j_tableOut (tgt := 206) dX11_says_136 (by have q0 := lv_neT c241 (a := 0) (by decide); have q1 := lv_neT c242 (a := 1) (by decide); have q2 := lv_neT c243 (a := 2) (by decide); have q3 := lv_neT c244 (a := 3) (by decide); have q4 := lv_neT c245 (a := 4) (by decide); have q5 := lv_neT c246 (a := 5) (by decide); have q6 := lv_neT c247 (a := 6) (by decide); omega) rfl ?_
                        refine j_aload_n 3 dX11_says_206 rfl ?_
                        refine j_iload_n 2 dX11_says_207 rfl ?_
                        refine j_callV (kc := 0) (ks := 0) (a := 0) (b := 0) (d' := d) (As := [.int (nI i)]) dX11_says_208 kX11_141 rfl (shM hM sgM_0) (by omega) rfl rfl rfl (Nat.le_of_ble_eq_true rfl) (Nat.le_of_ble_eq_true rfl) (T_X11_loss hM hS okS i (by omega)) (kk_p ?_)
                        refine j_iret dX11_says_211 rfl ?_
                        have hz : saysK Z q k = ((lossT Z.1 i), Z) := by
                          clear hQ
                          clear cv hM hS ok
                          have h01 := (okS.th hi).2.2.2
                          have hcl := nI_clamp (show i < 2 ^ 31 by omega)
                          have hin := i_ok hi (show nT Z.1 < 2 ^ 31 by omega)
                          have hone := one_all (q := q) (okS.th hi).1
                          have hsf := sfar_c (c := Z.1 12 i)
                          rw [← hp] at hin hcl
                          grind [saysK, cif, saysI, inZ, humT, lossT, may_1]
                        exact hQ _ _ ⟨by rw [hz], by rw [hz]; exact cv⟩
                      · refine j_iload_n 5 dX11_says_117 rfl ?_
                        refine j_iload 1 dX11_says_118 rfl ?_
                        refine j_icmp_eq (tgt := 135) dX11_says_120 rfl (fun c248 => ?_) (fun c248 => ?_)
                        · refine j_iload_n 5 dX11_says_135 rfl ?_
                          by_cases c250 : q = 0
                          · refine j_tableIn (tgt := 180) dX11_says_136 (by rw [c250]; decide) (by rw [c250]; decide) (off := 44) (by rw [c250]; decide) rfl ?_
                            refine j_aload_n 3 dX11_says_180 rfl ?_
                            refine j_getr (q := 4) dX11_says_181 fX11_35 (shM hM sgM_0) rfl (rfM hM rfM_0_12) ?_
                            refine j_iload_n 2 dX11_says_184 rfl ?_
                            refine j_ialdN i dX11_says_185 (shM hM sgM_4) (by omega) (by omega) ?_
                            refine j_topi (Z.1 12 i) (mr_arT hS (k := 2) (by omega) (by decide)) ?_
                            refine j_iret dX11_says_186 rfl ?_
                            have hz : saysK Z q k = ((Z.1 12 i), Z) := by
                              clear hQ
                              clear cv hM hS ok
                              have h01 := (okS.th hi).2.2.2
                              have hcl := nI_clamp (show i < 2 ^ 31 by omega)
                              have hin := i_ok hi (show nT Z.1 < 2 ^ 31 by omega)
                              have hone := one_all (q := q) (okS.th hi).1
                              have hsf := sfar_c (c := Z.1 12 i)
                              rw [← hp] at hin hcl
                              grind [saysK, cif, saysI, inZ, humT, lossT, may_1]
                            exact hQ _ _ ⟨by rw [hz], by rw [hz]; exact cv⟩
                          by_cases c251 : q = 1
                          · refine j_tableIn (tgt := 206) dX11_says_136 (by rw [c251]; decide) (by rw [c251]; decide) (off := 70) (by rw [c251]; decide) rfl ?_
                            refine j_aload_n 3 dX11_says_206 rfl ?_
                            refine j_iload_n 2 dX11_says_207 rfl ?_
                            refine j_callV (kc := 0) (ks := 0) (a := 0) (b := 0) (d' := d) (As := [.int (nI i)]) dX11_says_208 kX11_141 rfl (shM hM sgM_0) (by omega) rfl rfl rfl (Nat.le_of_ble_eq_true rfl) (Nat.le_of_ble_eq_true rfl) (T_X11_loss hM hS okS i (by omega)) (kk_p ?_)
                            refine j_iret dX11_says_211 rfl ?_
                            have hz : saysK Z q k = ((lossT Z.1 i), Z) := by
                              clear hQ
                              clear cv hM hS ok
                              have h01 := (okS.th hi).2.2.2
                              have hcl := nI_clamp (show i < 2 ^ 31 by omega)
                              have hin := i_ok hi (show nT Z.1 < 2 ^ 31 by omega)
                              have hone := one_all (q := q) (okS.th hi).1
                              have hsf := sfar_c (c := Z.1 12 i)
                              rw [← hp] at hin hcl
                              grind [saysK, cif, saysI, inZ, humT, lossT, may_1]
                            exact hQ _ _ ⟨by rw [hz], by rw [hz]; exact cv⟩
                          by_cases c252 : q = 2
                          · refine j_tableIn (tgt := 187) dX11_says_136 (by rw [c252]; decide) (by rw [c252]; decide) (off := 51) (by rw [c252]; decide) rfl ?_
                            refine j_aload_n 3 dX11_says_187 rfl ?_
                            refine j_getr (q := 5) dX11_says_188 fX11_38 (shM hM sgM_0) rfl (rfM hM rfM_0_13) ?_
                            refine j_iload_n 2 dX11_says_191 rfl ?_
                            refine j_ialdN i dX11_says_192 (shM hM sgM_5) (by omega) (by omega) ?_
                            refine j_topi (Z.1 13 i) (mr_arT hS (k := 3) (by omega) (by decide)) ?_
                            refine j_iret dX11_says_193 rfl ?_
                            have hz : saysK Z q k = ((Z.1 13 i), Z) := by
                              clear hQ
                              clear cv hM hS ok
                              have h01 := (okS.th hi).2.2.2
                              have hcl := nI_clamp (show i < 2 ^ 31 by omega)
                              have hin := i_ok hi (show nT Z.1 < 2 ^ 31 by omega)
                              have hone := one_all (q := q) (okS.th hi).1
                              have hsf := sfar_c (c := Z.1 12 i)
                              rw [← hp] at hin hcl
                              grind [saysK, cif, saysI, inZ, humT, lossT, may_1]
                            exact hQ _ _ ⟨by rw [hz], by rw [hz]; exact cv⟩
                          by_cases c253 : q = 3
                          · refine j_tableIn (tgt := 206) dX11_says_136 (by rw [c253]; decide) (by rw [c253]; decide) (off := 70) (by rw [c253]; decide) rfl ?_
                            refine j_aload_n 3 dX11_says_206 rfl ?_
                            refine j_iload_n 2 dX11_says_207 rfl ?_
                            refine j_callV (kc := 0) (ks := 0) (a := 0) (b := 0) (d' := d) (As := [.int (nI i)]) dX11_says_208 kX11_141 rfl (shM hM sgM_0) (by omega) rfl rfl rfl (Nat.le_of_ble_eq_true rfl) (Nat.le_of_ble_eq_true rfl) (T_X11_loss hM hS okS i (by omega)) (kk_p ?_)
                            refine j_iret dX11_says_211 rfl ?_
                            have hz : saysK Z q k = ((lossT Z.1 i), Z) := by
                              clear hQ
                              clear cv hM hS ok
                              have h01 := (okS.th hi).2.2.2
                              have hcl := nI_clamp (show i < 2 ^ 31 by omega)
                              have hin := i_ok hi (show nT Z.1 < 2 ^ 31 by omega)
                              have hone := one_all (q := q) (okS.th hi).1
                              have hsf := sfar_c (c := Z.1 12 i)
                              rw [← hp] at hin hcl
                              grind [saysK, cif, saysI, inZ, humT, lossT, may_1]
                            exact hQ _ _ ⟨by rw [hz], by rw [hz]; exact cv⟩
                          by_cases c254 : q = 4
                          · refine j_tableIn (tgt := 194) dX11_says_136 (by rw [c254]; decide) (by rw [c254]; decide) (off := 58) (by rw [c254]; decide) rfl ?_
                            refine j_aload_n 3 dX11_says_194 rfl ?_
                            refine j_iload_n 2 dX11_says_195 rfl ?_
                            refine j_aload_n 3 dX11_says_196 rfl ?_
                            refine j_getr (q := 4) dX11_says_197 fX11_35 (shM hM sgM_0) rfl (rfM hM rfM_0_12) ?_
                            refine j_iload_n 2 dX11_says_200 rfl ?_
                            refine j_ialdN i dX11_says_201 (shM hM sgM_4) (by omega) (by omega) ?_
                            refine j_topi (Z.1 12 i) (mr_arT hS (k := 2) (by omega) (by decide)) ?_
                            refine j_callV (kc := 0) (ks := 0) (a := 0) (b := 0) (d' := (d + 2)) (As := [.int (nI i), .int (Z.1 12 i)]) dX11_says_202 kX11_137 rfl (shM hM sgM_0) (by omega) rfl rfl rfl (Nat.le_of_ble_eq_true rfl) (Nat.le_of_ble_eq_true rfl) (T_X11_hums hM hS okS i (by omega) (Z.1 12 i) (isC_P okS (okS.th hi).2.2.1)) (kk_p ?_)
                            refine j_iret dX11_says_205 rfl ?_
                            have hz : saysK Z q k = ((humT Z.1 i (Z.1 12 i)), Z) := by
                              clear hQ
                              clear cv hM hS ok
                              have h01 := (okS.th hi).2.2.2
                              have hcl := nI_clamp (show i < 2 ^ 31 by omega)
                              have hin := i_ok hi (show nT Z.1 < 2 ^ 31 by omega)
                              have hone := one_all (q := q) (okS.th hi).1
                              have hsf := sfar_c (c := Z.1 12 i)
                              rw [← hp] at hin hcl
                              grind [saysK, cif, saysI, inZ, humT, lossT, may_1]
                            exact hQ _ _ ⟨by rw [hz], by rw [hz]; exact cv⟩
                          by_cases c255 : q = 5
                          · refine j_tableIn (tgt := 206) dX11_says_136 (by rw [c255]; decide) (by rw [c255]; decide) (off := 70) (by rw [c255]; decide) rfl ?_
                            refine j_aload_n 3 dX11_says_206 rfl ?_
                            refine j_iload_n 2 dX11_says_207 rfl ?_
                            refine j_callV (kc := 0) (ks := 0) (a := 0) (b := 0) (d' := d) (As := [.int (nI i)]) dX11_says_208 kX11_141 rfl (shM hM sgM_0) (by omega) rfl rfl rfl (Nat.le_of_ble_eq_true rfl) (Nat.le_of_ble_eq_true rfl) (T_X11_loss hM hS okS i (by omega)) (kk_p ?_)
                            refine j_iret dX11_says_211 rfl ?_
                            have hz : saysK Z q k = ((lossT Z.1 i), Z) := by
                              clear hQ
                              clear cv hM hS ok
                              have h01 := (okS.th hi).2.2.2
                              have hcl := nI_clamp (show i < 2 ^ 31 by omega)
                              have hin := i_ok hi (show nT Z.1 < 2 ^ 31 by omega)
                              have hone := one_all (q := q) (okS.th hi).1
                              have hsf := sfar_c (c := Z.1 12 i)
                              rw [← hp] at hin hcl
                              grind [saysK, cif, saysI, inZ, humT, lossT, may_1]
                            exact hQ _ _ ⟨by rw [hz], by rw [hz]; exact cv⟩
                          by_cases c256 : q = 6
                          · refine j_tableIn (tgt := 194) dX11_says_136 (by rw [c256]; decide) (by rw [c256]; decide) (off := 58) (by rw [c256]; decide) rfl ?_
                            refine j_aload_n 3 dX11_says_194 rfl ?_
                            refine j_iload_n 2 dX11_says_195 rfl ?_
                            refine j_aload_n 3 dX11_says_196 rfl ?_
                            refine j_getr (q := 4) dX11_says_197 fX11_35 (shM hM sgM_0) rfl (rfM hM rfM_0_12) ?_
                            refine j_iload_n 2 dX11_says_200 rfl ?_
                            refine j_ialdN i dX11_says_201 (shM hM sgM_4) (by omega) (by omega) ?_
                            refine j_topi (Z.1 12 i) (mr_arT hS (k := 2) (by omega) (by decide)) ?_
                            refine j_callV (kc := 0) (ks := 0) (a := 0) (b := 0) (d' := (d + 2)) (As := [.int (nI i), .int (Z.1 12 i)]) dX11_says_202 kX11_137 rfl (shM hM sgM_0) (by omega) rfl rfl rfl (Nat.le_of_ble_eq_true rfl) (Nat.le_of_ble_eq_true rfl) (T_X11_hums hM hS okS i (by omega) (Z.1 12 i) (isC_P okS (okS.th hi).2.2.1)) (kk_p ?_)
                            refine j_iret dX11_says_205 rfl ?_
                            have hz : saysK Z q k = ((humT Z.1 i (Z.1 12 i)), Z) := by
                              clear hQ
                              clear cv hM hS ok
                              have h01 := (okS.th hi).2.2.2
                              have hcl := nI_clamp (show i < 2 ^ 31 by omega)
                              have hin := i_ok hi (show nT Z.1 < 2 ^ 31 by omega)
                              have hone := one_all (q := q) (okS.th hi).1
                              have hsf := sfar_c (c := Z.1 12 i)
                              rw [← hp] at hin hcl
                              grind [saysK, cif, saysI, inZ, humT, lossT, may_1]
                            exact hQ _ _ ⟨by rw [hz], by rw [hz]; exact cv⟩
                          refine j_tableOut (tgt := 206) dX11_says_136 (by have q0 := lv_neT c250 (a := 0) (by decide); have q1 := lv_neT c251 (a := 1) (by decide); have q2 := lv_neT c252 (a := 2) (by decide); have q3 := lv_neT c253 (a := 3) (by decide); have q4 := lv_neT c254 (a := 4) (by decide); have q5 := lv_neT c255 (a := 5) (by decide); have q6 := lv_neT c256 (a := 6) (by decide); omega) rfl ?_
                          refine j_aload_n 3 dX11_says_206 rfl ?_
                          refine j_iload_n 2 dX11_says_207 rfl ?_
                          refine j_callV (kc := 0) (ks := 0) (a := 0) (b := 0) (d' := d) (As := [.int (nI i)]) dX11_says_208 kX11_141 rfl (shM hM sgM_0) (by omega) rfl rfl rfl (Nat.le_of_ble_eq_true rfl) (Nat.le_of_ble_eq_true rfl) (T_X11_loss hM hS okS i (by omega)) (kk_p ?_)
                          refine j_iret dX11_says_211 rfl ?_
                          have hz : saysK Z q k = ((lossT Z.1 i), Z) := by
                            clear hQ
                            clear cv hM hS ok
                            have h01 := (okS.th hi).2.2.2
                            have hcl := nI_clamp (show i < 2 ^ 31 by omega)
                            have hin := i_ok hi (show nT Z.1 < 2 ^ 31 by omega)
                            have hone := one_all (q := q) (okS.th hi).1
                            have hsf := sfar_c (c := Z.1 12 i)
                            rw [← hp] at hin hcl
                            grind [saysK, cif, saysI, inZ, humT, lossT, may_1]
                          exact hQ _ _ ⟨by rw [hz], by rw [hz]; exact cv⟩
                        · refine j_iload 0 dX11_says_123 rfl ?_
                          refine j_if_ne (tgt := 135) dX11_says_125 rfl (fun c257 => ?_) (fun c257 => ?_)
                          · refine j_iload_n 5 dX11_says_135 rfl ?_
                            by_cases c259 : q = 0
                            · refine j_tableIn (tgt := 180) dX11_says_136 (by rw [c259]; decide) (by rw [c259]; decide) (off := 44) (by rw [c259]; decide) rfl ?_
                              refine j_aload_n 3 dX11_says_180 rfl ?_
                              refine j_getr (q := 4) dX11_says_181 fX11_35 (shM hM sgM_0) rfl (rfM hM rfM_0_12) ?_
                              refine j_iload_n 2 dX11_says_184 rfl ?_
                              refine j_ialdN i dX11_says_185 (shM hM sgM_4) (by omega) (by omega) ?_
                              refine j_topi (Z.1 12 i) (mr_arT hS (k := 2) (by omega) (by decide)) ?_
                              refine j_iret dX11_says_186 rfl ?_
                              have hz : saysK Z q k = ((Z.1 12 i), Z) := by
                                clear hQ
                                clear cv hM hS ok
                                have h01 := (okS.th hi).2.2.2
                                have hcl := nI_clamp (show i < 2 ^ 31 by omega)
                                have hin := i_ok hi (show nT Z.1 < 2 ^ 31 by omega)
                                have hone := one_all (q := q) (okS.th hi).1
                                have hsf := sfar_c (c := Z.1 12 i)
                                rw [← hp] at hin hcl
                                grind [saysK, cif, saysI, inZ, humT, lossT, may_1]
                              exact hQ _ _ ⟨by rw [hz], by rw [hz]; exact cv⟩
                            by_cases c260 : q = 1
                            · refine j_tableIn (tgt := 206) dX11_says_136 (by rw [c260]; decide) (by rw [c260]; decide) (off := 70) (by rw [c260]; decide) rfl ?_
                              refine j_aload_n 3 dX11_says_206 rfl ?_
                              refine j_iload_n 2 dX11_says_207 rfl ?_
                              refine j_callV (kc := 0) (ks := 0) (a := 0) (b := 0) (d' := d) (As := [.int (nI i)]) dX11_says_208 kX11_141 rfl (shM hM sgM_0) (by omega) rfl rfl rfl (Nat.le_of_ble_eq_true rfl) (Nat.le_of_ble_eq_true rfl) (T_X11_loss hM hS okS i (by omega)) (kk_p ?_)
                              refine j_iret dX11_says_211 rfl ?_
                              have hz : saysK Z q k = ((lossT Z.1 i), Z) := by
                                clear hQ
                                clear cv hM hS ok
                                have h01 := (okS.th hi).2.2.2
                                have hcl := nI_clamp (show i < 2 ^ 31 by omega)
                                have hin := i_ok hi (show nT Z.1 < 2 ^ 31 by omega)
                                have hone := one_all (q := q) (okS.th hi).1
                                have hsf := sfar_c (c := Z.1 12 i)
                                rw [← hp] at hin hcl
                                grind [saysK, cif, saysI, inZ, humT, lossT, may_1]
                              exact hQ _ _ ⟨by rw [hz], by rw [hz]; exact cv⟩
                            by_cases c261 : q = 2
                            · refine j_tableIn (tgt := 187) dX11_says_136 (by rw [c261]; decide) (by rw [c261]; decide) (off := 51) (by rw [c261]; decide) rfl ?_
                              refine j_aload_n 3 dX11_says_187 rfl ?_
                              refine j_getr (q := 5) dX11_says_188 fX11_38 (shM hM sgM_0) rfl (rfM hM rfM_0_13) ?_
                              refine j_iload_n 2 dX11_says_191 rfl ?_
                              refine j_ialdN i dX11_says_192 (shM hM sgM_5) (by omega) (by omega) ?_
                              refine j_topi (Z.1 13 i) (mr_arT hS (k := 3) (by omega) (by decide)) ?_
                              refine j_iret dX11_says_193 rfl ?_
                              have hz : saysK Z q k = ((Z.1 13 i), Z) := by
                                clear hQ
                                clear cv hM hS ok
                                have h01 := (okS.th hi).2.2.2
                                have hcl := nI_clamp (show i < 2 ^ 31 by omega)
                                have hin := i_ok hi (show nT Z.1 < 2 ^ 31 by omega)
                                have hone := one_all (q := q) (okS.th hi).1
                                have hsf := sfar_c (c := Z.1 12 i)
                                rw [← hp] at hin hcl
                                grind [saysK, cif, saysI, inZ, humT, lossT, may_1]
                              exact hQ _ _ ⟨by rw [hz], by rw [hz]; exact cv⟩
                            by_cases c262 : q = 3
                            · refine j_tableIn (tgt := 206) dX11_says_136 (by rw [c262]; decide) (by rw [c262]; decide) (off := 70) (by rw [c262]; decide) rfl ?_
                              refine j_aload_n 3 dX11_says_206 rfl ?_
                              refine j_iload_n 2 dX11_says_207 rfl ?_
                              refine j_callV (kc := 0) (ks := 0) (a := 0) (b := 0) (d' := d) (As := [.int (nI i)]) dX11_says_208 kX11_141 rfl (shM hM sgM_0) (by omega) rfl rfl rfl (Nat.le_of_ble_eq_true rfl) (Nat.le_of_ble_eq_true rfl) (T_X11_loss hM hS okS i (by omega)) (kk_p ?_)
                              refine j_iret dX11_says_211 rfl ?_
                              have hz : saysK Z q k = ((lossT Z.1 i), Z) := by
                                clear hQ
                                clear cv hM hS ok
                                have h01 := (okS.th hi).2.2.2
                                have hcl := nI_clamp (show i < 2 ^ 31 by omega)
                                have hin := i_ok hi (show nT Z.1 < 2 ^ 31 by omega)
                                have hone := one_all (q := q) (okS.th hi).1
                                have hsf := sfar_c (c := Z.1 12 i)
                                rw [← hp] at hin hcl
                                grind [saysK, cif, saysI, inZ, humT, lossT, may_1]
                              exact hQ _ _ ⟨by rw [hz], by rw [hz]; exact cv⟩
                            by_cases c263 : q = 4
                            · refine j_tableIn (tgt := 194) dX11_says_136 (by rw [c263]; decide) (by rw [c263]; decide) (off := 58) (by rw [c263]; decide) rfl ?_
                              refine j_aload_n 3 dX11_says_194 rfl ?_
                              refine j_iload_n 2 dX11_says_195 rfl ?_
                              refine j_aload_n 3 dX11_says_196 rfl ?_
                              refine j_getr (q := 4) dX11_says_197 fX11_35 (shM hM sgM_0) rfl (rfM hM rfM_0_12) ?_
                              refine j_iload_n 2 dX11_says_200 rfl ?_
                              refine j_ialdN i dX11_says_201 (shM hM sgM_4) (by omega) (by omega) ?_
                              refine j_topi (Z.1 12 i) (mr_arT hS (k := 2) (by omega) (by decide)) ?_
                              refine j_callV (kc := 0) (ks := 0) (a := 0) (b := 0) (d' := (d + 2)) (As := [.int (nI i), .int (Z.1 12 i)]) dX11_says_202 kX11_137 rfl (shM hM sgM_0) (by omega) rfl rfl rfl (Nat.le_of_ble_eq_true rfl) (Nat.le_of_ble_eq_true rfl) (T_X11_hums hM hS okS i (by omega) (Z.1 12 i) (isC_P okS (okS.th hi).2.2.1)) (kk_p ?_)
                              refine j_iret dX11_says_205 rfl ?_
                              have hz : saysK Z q k = ((humT Z.1 i (Z.1 12 i)), Z) := by
                                clear hQ
                                clear cv hM hS ok
                                have h01 := (okS.th hi).2.2.2
                                have hcl := nI_clamp (show i < 2 ^ 31 by omega)
                                have hin := i_ok hi (show nT Z.1 < 2 ^ 31 by omega)
                                have hone := one_all (q := q) (okS.th hi).1
                                have hsf := sfar_c (c := Z.1 12 i)
                                rw [← hp] at hin hcl
                                grind [saysK, cif, saysI, inZ, humT, lossT, may_1]
                              exact hQ _ _ ⟨by rw [hz], by rw [hz]; exact cv⟩
                            by_cases c264 : q = 5
                            · refine j_tableIn (tgt := 206) dX11_says_136 (by rw [c264]; decide) (by rw [c264]; decide) (off := 70) (by rw [c264]; decide) rfl ?_
                              refine j_aload_n 3 dX11_says_206 rfl ?_
                              refine j_iload_n 2 dX11_says_207 rfl ?_
                              refine j_callV (kc := 0) (ks := 0) (a := 0) (b := 0) (d' := d) (As := [.int (nI i)]) dX11_says_208 kX11_141 rfl (shM hM sgM_0) (by omega) rfl rfl rfl (Nat.le_of_ble_eq_true rfl) (Nat.le_of_ble_eq_true rfl) (T_X11_loss hM hS okS i (by omega)) (kk_p ?_)
                              refine j_iret dX11_says_211 rfl ?_
                              have hz : saysK Z q k = ((lossT Z.1 i), Z) := by
                                clear hQ
                                clear cv hM hS ok
                                have h01 := (okS.th hi).2.2.2
                                have hcl := nI_clamp (show i < 2 ^ 31 by omega)
                                have hin := i_ok hi (show nT Z.1 < 2 ^ 31 by omega)
                                have hone := one_all (q := q) (okS.th hi).1
                                have hsf := sfar_c (c := Z.1 12 i)
                                rw [← hp] at hin hcl
                                grind [saysK, cif, saysI, inZ, humT, lossT, may_1]
                              exact hQ _ _ ⟨by rw [hz], by rw [hz]; exact cv⟩
                            by_cases c265 : q = 6
                            · refine j_tableIn (tgt := 194) dX11_says_136 (by rw [c265]; decide) (by rw [c265]; decide) (off := 58) (by rw [c265]; decide) rfl ?_
                              refine j_aload_n 3 dX11_says_194 rfl ?_
                              refine j_iload_n 2 dX11_says_195 rfl ?_
                              refine j_aload_n 3 dX11_says_196 rfl ?_
                              refine j_getr (q := 4) dX11_says_197 fX11_35 (shM hM sgM_0) rfl (rfM hM rfM_0_12) ?_
                              refine j_iload_n 2 dX11_says_200 rfl ?_
                              refine j_ialdN i dX11_says_201 (shM hM sgM_4) (by omega) (by omega) ?_
                              refine j_topi (Z.1 12 i) (mr_arT hS (k := 2) (by omega) (by decide)) ?_
                              refine j_callV (kc := 0) (ks := 0) (a := 0) (b := 0) (d' := (d + 2)) (As := [.int (nI i), .int (Z.1 12 i)]) dX11_says_202 kX11_137 rfl (shM hM sgM_0) (by omega) rfl rfl rfl (Nat.le_of_ble_eq_true rfl) (Nat.le_of_ble_eq_true rfl) (T_X11_hums hM hS okS i (by omega) (Z.1 12 i) (isC_P okS (okS.th hi).2.2.1)) (kk_p ?_)
                              refine j_iret dX11_says_205 rfl ?_
                              have hz : saysK Z q k = ((humT Z.1 i (Z.1 12 i)), Z) := by
                                clear hQ
                                clear cv hM hS ok
                                have h01 := (okS.th hi).2.2.2
                                have hcl := nI_clamp (show i < 2 ^ 31 by omega)
                                have hin := i_ok hi (show nT Z.1 < 2 ^ 31 by omega)
                                have hone := one_all (q := q) (okS.th hi).1
                                have hsf := sfar_c (c := Z.1 12 i)
                                rw [← hp] at hin hcl
                                grind [saysK, cif, saysI, inZ, humT, lossT, may_1]
                              exact hQ _ _ ⟨by rw [hz], by rw [hz]; exact cv⟩
                            refine j_tableOut (tgt := 206) dX11_says_136 (by have q0 := lv_neT c259 (a := 0) (by decide); have q1 := lv_neT c260 (a := 1) (by decide); have q2 := lv_neT c261 (a := 2) (by decide); have q3 := lv_neT c262 (a := 3) (by decide); have q4 := lv_neT c263 (a := 4) (by decide); have q5 := lv_neT c264 (a := 5) (by decide); have q6 := lv_neT c265 (a := 6) (by decide); omega) rfl ?_
                            refine j_aload_n 3 dX11_says_206 rfl ?_
                            refine j_iload_n 2 dX11_says_207 rfl ?_
                            refine j_callV (kc := 0) (ks := 0) (a := 0) (b := 0) (d' := d) (As := [.int (nI i)]) dX11_says_208 kX11_141 rfl (shM hM sgM_0) (by omega) rfl rfl rfl (Nat.le_of_ble_eq_true rfl) (Nat.le_of_ble_eq_true rfl) (T_X11_loss hM hS okS i (by omega)) (kk_p ?_)
                            refine j_iret dX11_says_211 rfl ?_
                            have hz : saysK Z q k = ((lossT Z.1 i), Z) := by
                              clear hQ
                              clear cv hM hS ok
                              have h01 := (okS.th hi).2.2.2
                              have hcl := nI_clamp (show i < 2 ^ 31 by omega)
                              have hin := i_ok hi (show nT Z.1 < 2 ^ 31 by omega)
                              have hone := one_all (q := q) (okS.th hi).1
                              have hsf := sfar_c (c := Z.1 12 i)
                              rw [← hp] at hin hcl
                              grind [saysK, cif, saysI, inZ, humT, lossT, may_1]
                            exact hQ _ _ ⟨by rw [hz], by rw [hz]; exact cv⟩
                          · exact absurd c257 (by decide)
                · refine j_iload 0 dX11_says_88 rfl ?_
                  refine j_iconst 5 dX11_says_90 ic_5 ?_
                  refine j_icmp_eq (tgt := 106) dX11_says_91 rfl (fun c266 => ?_) (fun c266 => ?_)
                  · refine j_iconst 1 dX11_says_106 ic_1 ?_
                    refine j_goto (tgt := 111) dX11_says_107 rfl ?_
                    refine j_istore (L' := [(5, .int 1), (4, .int (Z.1 10 i)), (3, .int (nI i)), (0, .ref 0), (1, .int (nI k)), (2, .int q)]) dX11_says_111 (by decide) rfl ?_
                    refine j_iload_n 5 dX11_says_113 rfl ?_
                    refine j_if_eq (tgt := 135) dX11_says_114 rfl (fun c267 => ?_) (fun c267 => ?_)
                    · refine j_iload_n 5 dX11_says_135 rfl ?_
                      by_cases c269 : q = 0
                      · refine j_tableIn (tgt := 180) dX11_says_136 (by rw [c269]; decide) (by rw [c269]; decide) (off := 44) (by rw [c269]; decide) rfl ?_
                        refine j_aload_n 3 dX11_says_180 rfl ?_
                        refine j_getr (q := 4) dX11_says_181 fX11_35 (shM hM sgM_0) rfl (rfM hM rfM_0_12) ?_
                        refine j_iload_n 2 dX11_says_184 rfl ?_
                        refine j_ialdN i dX11_says_185 (shM hM sgM_4) (by omega) (by omega) ?_
                        refine j_topi (Z.1 12 i) (mr_arT hS (k := 2) (by omega) (by decide)) ?_
                        refine j_iret dX11_says_186 rfl ?_
                        have hz : saysK Z q k = ((Z.1 12 i), Z) := by
                          clear hQ
                          clear cv hM hS ok
                          have h01 := (okS.th hi).2.2.2
                          have hcl := nI_clamp (show i < 2 ^ 31 by omega)
                          have hin := i_ok hi (show nT Z.1 < 2 ^ 31 by omega)
                          have hone := one_all (q := q) (okS.th hi).1
                          have hsf := sfar_c (c := Z.1 12 i)
                          rw [← hp] at hin hcl
                          grind [saysK, cif, saysI, inZ, humT, lossT, may_1]
                        exact hQ _ _ ⟨by rw [hz], by rw [hz]; exact cv⟩
                      by_cases c270 : q = 1
                      · refine j_tableIn (tgt := 206) dX11_says_136 (by rw [c270]; decide) (by rw [c270]; decide) (off := 70) (by rw [c270]; decide) rfl ?_
                        refine j_aload_n 3 dX11_says_206 rfl ?_
                        refine j_iload_n 2 dX11_says_207 rfl ?_
                        refine j_callV (kc := 0) (ks := 0) (a := 0) (b := 0) (d' := d) (As := [.int (nI i)]) dX11_says_208 kX11_141 rfl (shM hM sgM_0) (by omega) rfl rfl rfl (Nat.le_of_ble_eq_true rfl) (Nat.le_of_ble_eq_true rfl) (T_X11_loss hM hS okS i (by omega)) (kk_p ?_)
                        refine j_iret dX11_says_211 rfl ?_
                        have hz : saysK Z q k = ((lossT Z.1 i), Z) := by
                          clear hQ
                          clear cv hM hS ok
                          have h01 := (okS.th hi).2.2.2
                          have hcl := nI_clamp (show i < 2 ^ 31 by omega)
                          have hin := i_ok hi (show nT Z.1 < 2 ^ 31 by omega)
                          have hone := one_all (q := q) (okS.th hi).1
                          have hsf := sfar_c (c := Z.1 12 i)
                          rw [← hp] at hin hcl
                          grind [saysK, cif, saysI, inZ, humT, lossT, may_1]
                        exact hQ _ _ ⟨by rw [hz], by rw [hz]; exact cv⟩
                      by_cases c271 : q = 2
                      · refine j_tableIn (tgt := 187) dX11_says_136 (by rw [c271]; decide) (by rw [c271]; decide) (off := 51) (by rw [c271]; decide) rfl ?_
                        refine j_aload_n 3 dX11_says_187 rfl ?_
                        refine j_getr (q := 5) dX11_says_188 fX11_38 (shM hM sgM_0) rfl (rfM hM rfM_0_13) ?_
                        refine j_iload_n 2 dX11_says_191 rfl ?_
                        refine j_ialdN i dX11_says_192 (shM hM sgM_5) (by omega) (by omega) ?_
                        refine j_topi (Z.1 13 i) (mr_arT hS (k := 3) (by omega) (by decide)) ?_
                        refine j_iret dX11_says_193 rfl ?_
                        have hz : saysK Z q k = ((Z.1 13 i), Z) := by
                          clear hQ
                          clear cv hM hS ok
                          have h01 := (okS.th hi).2.2.2
                          have hcl := nI_clamp (show i < 2 ^ 31 by omega)
                          have hin := i_ok hi (show nT Z.1 < 2 ^ 31 by omega)
                          have hone := one_all (q := q) (okS.th hi).1
                          have hsf := sfar_c (c := Z.1 12 i)
                          rw [← hp] at hin hcl
                          grind [saysK, cif, saysI, inZ, humT, lossT, may_1]
                        exact hQ _ _ ⟨by rw [hz], by rw [hz]; exact cv⟩
                      by_cases c272 : q = 3
                      · refine j_tableIn (tgt := 206) dX11_says_136 (by rw [c272]; decide) (by rw [c272]; decide) (off := 70) (by rw [c272]; decide) rfl ?_
                        refine j_aload_n 3 dX11_says_206 rfl ?_
                        refine j_iload_n 2 dX11_says_207 rfl ?_
                        refine j_callV (kc := 0) (ks := 0) (a := 0) (b := 0) (d' := d) (As := [.int (nI i)]) dX11_says_208 kX11_141 rfl (shM hM sgM_0) (by omega) rfl rfl rfl (Nat.le_of_ble_eq_true rfl) (Nat.le_of_ble_eq_true rfl) (T_X11_loss hM hS okS i (by omega)) (kk_p ?_)
                        refine j_iret dX11_says_211 rfl ?_
                        have hz : saysK Z q k = ((lossT Z.1 i), Z) := by
                          clear hQ
                          clear cv hM hS ok
                          have h01 := (okS.th hi).2.2.2
                          have hcl := nI_clamp (show i < 2 ^ 31 by omega)
                          have hin := i_ok hi (show nT Z.1 < 2 ^ 31 by omega)
                          have hone := one_all (q := q) (okS.th hi).1
                          have hsf := sfar_c (c := Z.1 12 i)
                          rw [← hp] at hin hcl
                          grind [saysK, cif, saysI, inZ, humT, lossT, may_1]
                        exact hQ _ _ ⟨by rw [hz], by rw [hz]; exact cv⟩
                      by_cases c273 : q = 4
                      · refine j_tableIn (tgt := 194) dX11_says_136 (by rw [c273]; decide) (by rw [c273]; decide) (off := 58) (by rw [c273]; decide) rfl ?_
                        refine j_aload_n 3 dX11_says_194 rfl ?_
                        refine j_iload_n 2 dX11_says_195 rfl ?_
                        refine j_aload_n 3 dX11_says_196 rfl ?_
                        refine j_getr (q := 4) dX11_says_197 fX11_35 (shM hM sgM_0) rfl (rfM hM rfM_0_12) ?_
                        refine j_iload_n 2 dX11_says_200 rfl ?_
                        refine j_ialdN i dX11_says_201 (shM hM sgM_4) (by omega) (by omega) ?_
                        refine j_topi (Z.1 12 i) (mr_arT hS (k := 2) (by omega) (by decide)) ?_
                        refine j_callV (kc := 0) (ks := 0) (a := 0) (b := 0) (d' := (d + 2)) (As := [.int (nI i), .int (Z.1 12 i)]) dX11_says_202 kX11_137 rfl (shM hM sgM_0) (by omega) rfl rfl rfl (Nat.le_of_ble_eq_true rfl) (Nat.le_of_ble_eq_true rfl) (T_X11_hums hM hS okS i (by omega) (Z.1 12 i) (isC_P okS (okS.th hi).2.2.1)) (kk_p ?_)
                        refine j_iret dX11_says_205 rfl ?_
                        have hz : saysK Z q k = ((humT Z.1 i (Z.1 12 i)), Z) := by
                          clear hQ
                          clear cv hM hS ok
                          have h01 := (okS.th hi).2.2.2
                          have hcl := nI_clamp (show i < 2 ^ 31 by omega)
                          have hin := i_ok hi (show nT Z.1 < 2 ^ 31 by omega)
                          have hone := one_all (q := q) (okS.th hi).1
                          have hsf := sfar_c (c := Z.1 12 i)
                          rw [← hp] at hin hcl
                          grind [saysK, cif, saysI, inZ, humT, lossT, may_1]
                        exact hQ _ _ ⟨by rw [hz], by rw [hz]; exact cv⟩
                      by_cases c274 : q = 5
                      · refine j_tableIn (tgt := 206) dX11_says_136 (by rw [c274]; decide) (by rw [c274]; decide) (off := 70) (by rw [c274]; decide) rfl ?_
                        refine j_aload_n 3 dX11_says_206 rfl ?_
                        refine j_iload_n 2 dX11_says_207 rfl ?_
                        refine j_callV (kc := 0) (ks := 0) (a := 0) (b := 0) (d' := d) (As := [.int (nI i)]) dX11_says_208 kX11_141 rfl (shM hM sgM_0) (by omega) rfl rfl rfl (Nat.le_of_ble_eq_true rfl) (Nat.le_of_ble_eq_true rfl) (T_X11_loss hM hS okS i (by omega)) (kk_p ?_)
                        refine j_iret dX11_says_211 rfl ?_
                        have hz : saysK Z q k = ((lossT Z.1 i), Z) := by
                          clear hQ
                          clear cv hM hS ok
                          have h01 := (okS.th hi).2.2.2
                          have hcl := nI_clamp (show i < 2 ^ 31 by omega)
                          have hin := i_ok hi (show nT Z.1 < 2 ^ 31 by omega)
                          have hone := one_all (q := q) (okS.th hi).1
                          have hsf := sfar_c (c := Z.1 12 i)
                          rw [← hp] at hin hcl
                          grind [saysK, cif, saysI, inZ, humT, lossT, may_1]
                        exact hQ _ _ ⟨by rw [hz], by rw [hz]; exact cv⟩
                      by_cases c275 : q = 6
                      · refine j_tableIn (tgt := 194) dX11_says_136 (by rw [c275]; decide) (by rw [c275]; decide) (off := 58) (by rw [c275]; decide) rfl ?_
                        refine j_aload_n 3 dX11_says_194 rfl ?_
                        refine j_iload_n 2 dX11_says_195 rfl ?_
                        refine j_aload_n 3 dX11_says_196 rfl ?_
                        refine j_getr (q := 4) dX11_says_197 fX11_35 (shM hM sgM_0) rfl (rfM hM rfM_0_12) ?_
                        refine j_iload_n 2 dX11_says_200 rfl ?_
                        refine j_ialdN i dX11_says_201 (shM hM sgM_4) (by omega) (by omega) ?_
                        refine j_topi (Z.1 12 i) (mr_arT hS (k := 2) (by omega) (by decide)) ?_
                        refine j_callV (kc := 0) (ks := 0) (a := 0) (b := 0) (d' := (d + 2)) (As := [.int (nI i), .int (Z.1 12 i)]) dX11_says_202 kX11_137 rfl (shM hM sgM_0) (by omega) rfl rfl rfl (Nat.le_of_ble_eq_true rfl) (Nat.le_of_ble_eq_true rfl) (T_X11_hums hM hS okS i (by omega) (Z.1 12 i) (isC_P okS (okS.th hi).2.2.1)) (kk_p ?_)
                        refine j_iret dX11_says_205 rfl ?_
                        have hz : saysK Z q k = ((humT Z.1 i (Z.1 12 i)), Z) := by
                          clear hQ
                          clear cv hM hS ok
                          have h01 := (okS.th hi).2.2.2
                          have hcl := nI_clamp (show i < 2 ^ 31 by omega)
                          have hin := i_ok hi (show nT Z.1 < 2 ^ 31 by omega)
                          have hone := one_all (q := q) (okS.th hi).1
                          have hsf := sfar_c (c := Z.1 12 i)
                          rw [← hp] at hin hcl
                          grind [saysK, cif, saysI, inZ, humT, lossT, may_1]
                        exact hQ _ _ ⟨by rw [hz], by rw [hz]; exact cv⟩
                      refine j_tableOut (tgt := 206) dX11_says_136 (by have q0 := lv_neT c269 (a := 0) (by decide); have q1 := lv_neT c270 (a := 1) (by decide); have q2 := lv_neT c271 (a := 2) (by decide); have q3 := lv_neT c272 (a := 3) (by decide); have q4 := lv_neT c273 (a := 4) (by decide); have q5 := lv_neT c274 (a := 5) (by decide); have q6 := lv_neT c275 (a := 6) (by decide); omega) rfl ?_
                      refine j_aload_n 3 dX11_says_206 rfl ?_
                      refine j_iload_n 2 dX11_says_207 rfl ?_
                      refine j_callV (kc := 0) (ks := 0) (a := 0) (b := 0) (d' := d) (As := [.int (nI i)]) dX11_says_208 kX11_141 rfl (shM hM sgM_0) (by omega) rfl rfl rfl (Nat.le_of_ble_eq_true rfl) (Nat.le_of_ble_eq_true rfl) (T_X11_loss hM hS okS i (by omega)) (kk_p ?_)
                      refine j_iret dX11_says_211 rfl ?_
                      have hz : saysK Z q k = ((lossT Z.1 i), Z) := by
                        clear hQ
                        clear cv hM hS ok
                        have h01 := (okS.th hi).2.2.2
                        have hcl := nI_clamp (show i < 2 ^ 31 by omega)
                        have hin := i_ok hi (show nT Z.1 < 2 ^ 31 by omega)
                        have hone := one_all (q := q) (okS.th hi).1
                        have hsf := sfar_c (c := Z.1 12 i)
                        rw [← hp] at hin hcl
                        grind [saysK, cif, saysI, inZ, humT, lossT, may_1]
                      exact hQ _ _ ⟨by rw [hz], by rw [hz]; exact cv⟩
                    · refine j_iload_n 5 dX11_says_117 rfl ?_
                      refine j_iload 1 dX11_says_118 rfl ?_
                      refine j_icmp_eq (tgt := 135) dX11_says_120 rfl (fun c276 => ?_) (fun c276 => ?_)
                      · refine j_iload_n 5 dX11_says_135 rfl ?_
                        by_cases c278 : q = 0
                        · refine j_tableIn (tgt := 180) dX11_says_136 (by rw [c278]; decide) (by rw [c278]; decide) (off := 44) (by rw [c278]; decide) rfl ?_
                          refine j_aload_n 3 dX11_says_180 rfl ?_
                          refine j_getr (q := 4) dX11_says_181 fX11_35 (shM hM sgM_0) rfl (rfM hM rfM_0_12) ?_
                          refine j_iload_n 2 dX11_says_184 rfl ?_
                          refine j_ialdN i dX11_says_185 (shM hM sgM_4) (by omega) (by omega) ?_
                          refine j_topi (Z.1 12 i) (mr_arT hS (k := 2) (by omega) (by decide)) ?_
                          refine j_iret dX11_says_186 rfl ?_
                          have hz : saysK Z q k = ((Z.1 12 i), Z) := by
                            clear hQ
                            clear cv hM hS ok
                            have h01 := (okS.th hi).2.2.2
                            have hcl := nI_clamp (show i < 2 ^ 31 by omega)
                            have hin := i_ok hi (show nT Z.1 < 2 ^ 31 by omega)
                            have hone := one_all (q := q) (okS.th hi).1
                            have hsf := sfar_c (c := Z.1 12 i)
                            rw [← hp] at hin hcl
                            grind [saysK, cif, saysI, inZ, humT, lossT, may_1]
                          exact hQ _ _ ⟨by rw [hz], by rw [hz]; exact cv⟩
                        by_cases c279 : q = 1
                        · refine j_tableIn (tgt := 206) dX11_says_136 (by rw [c279]; decide) (by rw [c279]; decide) (off := 70) (by rw [c279]; decide) rfl ?_
                          refine j_aload_n 3 dX11_says_206 rfl ?_
                          refine j_iload_n 2 dX11_says_207 rfl ?_
                          refine j_callV (kc := 0) (ks := 0) (a := 0) (b := 0) (d' := d) (As := [.int (nI i)]) dX11_says_208 kX11_141 rfl (shM hM sgM_0) (by omega) rfl rfl rfl (Nat.le_of_ble_eq_true rfl) (Nat.le_of_ble_eq_true rfl) (T_X11_loss hM hS okS i (by omega)) (kk_p ?_)
                          refine j_iret dX11_says_211 rfl ?_
                          have hz : saysK Z q k = ((lossT Z.1 i), Z) := by
                            clear hQ
                            clear cv hM hS ok
                            have h01 := (okS.th hi).2.2.2
                            have hcl := nI_clamp (show i < 2 ^ 31 by omega)
                            have hin := i_ok hi (show nT Z.1 < 2 ^ 31 by omega)
                            have hone := one_all (q := q) (okS.th hi).1
                            have hsf := sfar_c (c := Z.1 12 i)
                            rw [← hp] at hin hcl
                            grind [saysK, cif, saysI, inZ, humT, lossT, may_1]
                          exact hQ _ _ ⟨by rw [hz], by rw [hz]; exact cv⟩
                        by_cases c280 : q = 2
                        · refine j_tableIn (tgt := 187) dX11_says_136 (by rw [c280]; decide) (by rw [c280]; decide) (off := 51) (by rw [c280]; decide) rfl ?_
                          refine j_aload_n 3 dX11_says_187 rfl ?_
                          refine j_getr (q := 5) dX11_says_188 fX11_38 (shM hM sgM_0) rfl (rfM hM rfM_0_13) ?_
                          refine j_iload_n 2 dX11_says_191 rfl ?_
                          refine j_ialdN i dX11_says_192 (shM hM sgM_5) (by omega) (by omega) ?_
                          refine j_topi (Z.1 13 i) (mr_arT hS (k := 3) (by omega) (by decide)) ?_
                          refine j_iret dX11_says_193 rfl ?_
                          have hz : saysK Z q k = ((Z.1 13 i), Z) := by
                            clear hQ
                            clear cv hM hS ok
                            have h01 := (okS.th hi).2.2.2
                            have hcl := nI_clamp (show i < 2 ^ 31 by omega)
                            have hin := i_ok hi (show nT Z.1 < 2 ^ 31 by omega)
                            have hone := one_all (q := q) (okS.th hi).1
                            have hsf := sfar_c (c := Z.1 12 i)
                            rw [← hp] at hin hcl
                            grind [saysK, cif, saysI, inZ, humT, lossT, may_1]
                          exact hQ _ _ ⟨by rw [hz], by rw [hz]; exact cv⟩
                        by_cases c281 : q = 3
                        · refine j_tableIn (tgt := 206) dX11_says_136 (by rw [c281]; decide) (by rw [c281]; decide) (off := 70) (by rw [c281]; decide) rfl ?_
                          refine j_aload_n 3 dX11_says_206 rfl ?_
                          refine j_iload_n 2 dX11_says_207 rfl ?_
                          refine j_callV (kc := 0) (ks := 0) (a := 0) (b := 0) (d' := d) (As := [.int (nI i)]) dX11_says_208 kX11_141 rfl (shM hM sgM_0) (by omega) rfl rfl rfl (Nat.le_of_ble_eq_true rfl) (Nat.le_of_ble_eq_true rfl) (T_X11_loss hM hS okS i (by omega)) (kk_p ?_)
                          refine j_iret dX11_says_211 rfl ?_
                          have hz : saysK Z q k = ((lossT Z.1 i), Z) := by
                            clear hQ
                            clear cv hM hS ok
                            have h01 := (okS.th hi).2.2.2
                            have hcl := nI_clamp (show i < 2 ^ 31 by omega)
                            have hin := i_ok hi (show nT Z.1 < 2 ^ 31 by omega)
                            have hone := one_all (q := q) (okS.th hi).1
                            have hsf := sfar_c (c := Z.1 12 i)
                            rw [← hp] at hin hcl
                            grind [saysK, cif, saysI, inZ, humT, lossT, may_1]
                          exact hQ _ _ ⟨by rw [hz], by rw [hz]; exact cv⟩
                        by_cases c282 : q = 4
                        · refine j_tableIn (tgt := 194) dX11_says_136 (by rw [c282]; decide) (by rw [c282]; decide) (off := 58) (by rw [c282]; decide) rfl ?_
                          refine j_aload_n 3 dX11_says_194 rfl ?_
                          refine j_iload_n 2 dX11_says_195 rfl ?_
                          refine j_aload_n 3 dX11_says_196 rfl ?_
                          refine j_getr (q := 4) dX11_says_197 fX11_35 (shM hM sgM_0) rfl (rfM hM rfM_0_12) ?_
                          refine j_iload_n 2 dX11_says_200 rfl ?_
                          refine j_ialdN i dX11_says_201 (shM hM sgM_4) (by omega) (by omega) ?_
                          refine j_topi (Z.1 12 i) (mr_arT hS (k := 2) (by omega) (by decide)) ?_
                          refine j_callV (kc := 0) (ks := 0) (a := 0) (b := 0) (d' := (d + 2)) (As := [.int (nI i), .int (Z.1 12 i)]) dX11_says_202 kX11_137 rfl (shM hM sgM_0) (by omega) rfl rfl rfl (Nat.le_of_ble_eq_true rfl) (Nat.le_of_ble_eq_true rfl) (T_X11_hums hM hS okS i (by omega) (Z.1 12 i) (isC_P okS (okS.th hi).2.2.1)) (kk_p ?_)
                          refine j_iret dX11_says_205 rfl ?_
                          have hz : saysK Z q k = ((humT Z.1 i (Z.1 12 i)), Z) := by
                            clear hQ
                            clear cv hM hS ok
                            have h01 := (okS.th hi).2.2.2
                            have hcl := nI_clamp (show i < 2 ^ 31 by omega)
                            have hin := i_ok hi (show nT Z.1 < 2 ^ 31 by omega)
                            have hone := one_all (q := q) (okS.th hi).1
                            have hsf := sfar_c (c := Z.1 12 i)
                            rw [← hp] at hin hcl
                            grind [saysK, cif, saysI, inZ, humT, lossT, may_1]
                          exact hQ _ _ ⟨by rw [hz], by rw [hz]; exact cv⟩
                        by_cases c283 : q = 5
                        · refine j_tableIn (tgt := 206) dX11_says_136 (by rw [c283]; decide) (by rw [c283]; decide) (off := 70) (by rw [c283]; decide) rfl ?_
                          refine j_aload_n 3 dX11_says_206 rfl ?_
                          refine j_iload_n 2 dX11_says_207 rfl ?_
                          refine j_callV (kc := 0) (ks := 0) (a := 0) (b := 0) (d' := d) (As := [.int (nI i)]) dX11_says_208 kX11_141 rfl (shM hM sgM_0) (by omega) rfl rfl rfl (Nat.le_of_ble_eq_true rfl) (Nat.le_of_ble_eq_true rfl) (T_X11_loss hM hS okS i (by omega)) (kk_p ?_)
                          refine j_iret dX11_says_211 rfl ?_
                          have hz : saysK Z q k = ((lossT Z.1 i), Z) := by
                            clear hQ
                            clear cv hM hS ok
                            have h01 := (okS.th hi).2.2.2
                            have hcl := nI_clamp (show i < 2 ^ 31 by omega)
                            have hin := i_ok hi (show nT Z.1 < 2 ^ 31 by omega)
                            have hone := one_all (q := q) (okS.th hi).1
                            have hsf := sfar_c (c := Z.1 12 i)
                            rw [← hp] at hin hcl
                            grind [saysK, cif, saysI, inZ, humT, lossT, may_1]
                          exact hQ _ _ ⟨by rw [hz], by rw [hz]; exact cv⟩
                        by_cases c284 : q = 6
                        · refine j_tableIn (tgt := 194) dX11_says_136 (by rw [c284]; decide) (by rw [c284]; decide) (off := 58) (by rw [c284]; decide) rfl ?_
                          refine j_aload_n 3 dX11_says_194 rfl ?_
                          refine j_iload_n 2 dX11_says_195 rfl ?_
                          refine j_aload_n 3 dX11_says_196 rfl ?_
                          refine j_getr (q := 4) dX11_says_197 fX11_35 (shM hM sgM_0) rfl (rfM hM rfM_0_12) ?_
                          refine j_iload_n 2 dX11_says_200 rfl ?_
                          refine j_ialdN i dX11_says_201 (shM hM sgM_4) (by omega) (by omega) ?_
                          refine j_topi (Z.1 12 i) (mr_arT hS (k := 2) (by omega) (by decide)) ?_
                          refine j_callV (kc := 0) (ks := 0) (a := 0) (b := 0) (d' := (d + 2)) (As := [.int (nI i), .int (Z.1 12 i)]) dX11_says_202 kX11_137 rfl (shM hM sgM_0) (by omega) rfl rfl rfl (Nat.le_of_ble_eq_true rfl) (Nat.le_of_ble_eq_true rfl) (T_X11_hums hM hS okS i (by omega) (Z.1 12 i) (isC_P okS (okS.th hi).2.2.1)) (kk_p ?_)
                          refine j_iret dX11_says_205 rfl ?_
                          have hz : saysK Z q k = ((humT Z.1 i (Z.1 12 i)), Z) := by
                            clear hQ
                            clear cv hM hS ok
                            have h01 := (okS.th hi).2.2.2
                            have hcl := nI_clamp (show i < 2 ^ 31 by omega)
                            have hin := i_ok hi (show nT Z.1 < 2 ^ 31 by omega)
                            have hone := one_all (q := q) (okS.th hi).1
                            have hsf := sfar_c (c := Z.1 12 i)
                            rw [← hp] at hin hcl
                            grind [saysK, cif, saysI, inZ, humT, lossT, may_1]
                          exact hQ _ _ ⟨by rw [hz], by rw [hz]; exact cv⟩
                        refine j_tableOut (tgt := 206) dX11_says_136 (by have q0 := lv_neT c278 (a := 0) (by decide); have q1 := lv_neT c279 (a := 1) (by decide); have q2 := lv_neT c280 (a := 2) (by decide); have q3 := lv_neT c281 (a := 3) (by decide); have q4 := lv_neT c282 (a := 4) (by decide); have q5 := lv_neT c283 (a := 5) (by decide); have q6 := lv_neT c284 (a := 6) (by decide); omega) rfl ?_
                        refine j_aload_n 3 dX11_says_206 rfl ?_
                        refine j_iload_n 2 dX11_says_207 rfl ?_
                        refine j_callV (kc := 0) (ks := 0) (a := 0) (b := 0) (d' := d) (As := [.int (nI i)]) dX11_says_208 kX11_141 rfl (shM hM sgM_0) (by omega) rfl rfl rfl (Nat.le_of_ble_eq_true rfl) (Nat.le_of_ble_eq_true rfl) (T_X11_loss hM hS okS i (by omega)) (kk_p ?_)
                        refine j_iret dX11_says_211 rfl ?_
                        have hz : saysK Z q k = ((lossT Z.1 i), Z) := by
                          clear hQ
                          clear cv hM hS ok
                          have h01 := (okS.th hi).2.2.2
                          have hcl := nI_clamp (show i < 2 ^ 31 by omega)
                          have hin := i_ok hi (show nT Z.1 < 2 ^ 31 by omega)
                          have hone := one_all (q := q) (okS.th hi).1
                          have hsf := sfar_c (c := Z.1 12 i)
                          rw [← hp] at hin hcl
                          grind [saysK, cif, saysI, inZ, humT, lossT, may_1]
                        exact hQ _ _ ⟨by rw [hz], by rw [hz]; exact cv⟩
                      · refine j_iload 0 dX11_says_123 rfl ?_
                        refine j_if_ne (tgt := 135) dX11_says_125 rfl (fun c285 => ?_) (fun c285 => ?_)
                        · refine j_iload_n 5 dX11_says_135 rfl ?_
                          by_cases c287 : q = 0
                          · refine j_tableIn (tgt := 180) dX11_says_136 (by rw [c287]; decide) (by rw [c287]; decide) (off := 44) (by rw [c287]; decide) rfl ?_
                            refine j_aload_n 3 dX11_says_180 rfl ?_
                            refine j_getr (q := 4) dX11_says_181 fX11_35 (shM hM sgM_0) rfl (rfM hM rfM_0_12) ?_
                            refine j_iload_n 2 dX11_says_184 rfl ?_
                            refine j_ialdN i dX11_says_185 (shM hM sgM_4) (by omega) (by omega) ?_
                            refine j_topi (Z.1 12 i) (mr_arT hS (k := 2) (by omega) (by decide)) ?_
                            refine j_iret dX11_says_186 rfl ?_
                            have hz : saysK Z q k = ((Z.1 12 i), Z) := by
                              clear hQ
                              clear cv hM hS ok
                              have h01 := (okS.th hi).2.2.2
                              have hcl := nI_clamp (show i < 2 ^ 31 by omega)
                              have hin := i_ok hi (show nT Z.1 < 2 ^ 31 by omega)
                              have hone := one_all (q := q) (okS.th hi).1
                              have hsf := sfar_c (c := Z.1 12 i)
                              rw [← hp] at hin hcl
                              grind [saysK, cif, saysI, inZ, humT, lossT, may_1]
                            exact hQ _ _ ⟨by rw [hz], by rw [hz]; exact cv⟩
                          by_cases c288 : q = 1
                          · refine j_tableIn (tgt := 206) dX11_says_136 (by rw [c288]; decide) (by rw [c288]; decide) (off := 70) (by rw [c288]; decide) rfl ?_
                            refine j_aload_n 3 dX11_says_206 rfl ?_
                            refine j_iload_n 2 dX11_says_207 rfl ?_
                            refine j_callV (kc := 0) (ks := 0) (a := 0) (b := 0) (d' := d) (As := [.int (nI i)]) dX11_says_208 kX11_141 rfl (shM hM sgM_0) (by omega) rfl rfl rfl (Nat.le_of_ble_eq_true rfl) (Nat.le_of_ble_eq_true rfl) (T_X11_loss hM hS okS i (by omega)) (kk_p ?_)
                            refine j_iret dX11_says_211 rfl ?_
                            have hz : saysK Z q k = ((lossT Z.1 i), Z) := by
                              clear hQ
                              clear cv hM hS ok
                              have h01 := (okS.th hi).2.2.2
                              have hcl := nI_clamp (show i < 2 ^ 31 by omega)
                              have hin := i_ok hi (show nT Z.1 < 2 ^ 31 by omega)
                              have hone := one_all (q := q) (okS.th hi).1
                              have hsf := sfar_c (c := Z.1 12 i)
                              rw [← hp] at hin hcl
                              grind [saysK, cif, saysI, inZ, humT, lossT, may_1]
                            exact hQ _ _ ⟨by rw [hz], by rw [hz]; exact cv⟩
                          by_cases c289 : q = 2
                          · refine j_tableIn (tgt := 187) dX11_says_136 (by rw [c289]; decide) (by rw [c289]; decide) (off := 51) (by rw [c289]; decide) rfl ?_
                            refine j_aload_n 3 dX11_says_187 rfl ?_
                            refine j_getr (q := 5) dX11_says_188 fX11_38 (shM hM sgM_0) rfl (rfM hM rfM_0_13) ?_
                            refine j_iload_n 2 dX11_says_191 rfl ?_
                            refine j_ialdN i dX11_says_192 (shM hM sgM_5) (by omega) (by omega) ?_
                            refine j_topi (Z.1 13 i) (mr_arT hS (k := 3) (by omega) (by decide)) ?_
                            refine j_iret dX11_says_193 rfl ?_
                            have hz : saysK Z q k = ((Z.1 13 i), Z) := by
                              clear hQ
                              clear cv hM hS ok
                              have h01 := (okS.th hi).2.2.2
                              have hcl := nI_clamp (show i < 2 ^ 31 by omega)
                              have hin := i_ok hi (show nT Z.1 < 2 ^ 31 by omega)
                              have hone := one_all (q := q) (okS.th hi).1
                              have hsf := sfar_c (c := Z.1 12 i)
                              rw [← hp] at hin hcl
                              grind [saysK, cif, saysI, inZ, humT, lossT, may_1]
                            exact hQ _ _ ⟨by rw [hz], by rw [hz]; exact cv⟩
                          by_cases c290 : q = 3
                          · refine j_tableIn (tgt := 206) dX11_says_136 (by rw [c290]; decide) (by rw [c290]; decide) (off := 70) (by rw [c290]; decide) rfl ?_
                            refine j_aload_n 3 dX11_says_206 rfl ?_
                            refine j_iload_n 2 dX11_says_207 rfl ?_
                            refine j_callV (kc := 0) (ks := 0) (a := 0) (b := 0) (d' := d) (As := [.int (nI i)]) dX11_says_208 kX11_141 rfl (shM hM sgM_0) (by omega) rfl rfl rfl (Nat.le_of_ble_eq_true rfl) (Nat.le_of_ble_eq_true rfl) (T_X11_loss hM hS okS i (by omega)) (kk_p ?_)
                            refine j_iret dX11_says_211 rfl ?_
                            have hz : saysK Z q k = ((lossT Z.1 i), Z) := by
                              clear hQ
                              clear cv hM hS ok
                              have h01 := (okS.th hi).2.2.2
                              have hcl := nI_clamp (show i < 2 ^ 31 by omega)
                              have hin := i_ok hi (show nT Z.1 < 2 ^ 31 by omega)
                              have hone := one_all (q := q) (okS.th hi).1
                              have hsf := sfar_c (c := Z.1 12 i)
                              rw [← hp] at hin hcl
                              grind [saysK, cif, saysI, inZ, humT, lossT, may_1]
                            exact hQ _ _ ⟨by rw [hz], by rw [hz]; exact cv⟩
                          by_cases c291 : q = 4
                          · refine j_tableIn (tgt := 194) dX11_says_136 (by rw [c291]; decide) (by rw [c291]; decide) (off := 58) (by rw [c291]; decide) rfl ?_
                            refine j_aload_n 3 dX11_says_194 rfl ?_
                            refine j_iload_n 2 dX11_says_195 rfl ?_
                            refine j_aload_n 3 dX11_says_196 rfl ?_
                            refine j_getr (q := 4) dX11_says_197 fX11_35 (shM hM sgM_0) rfl (rfM hM rfM_0_12) ?_
                            refine j_iload_n 2 dX11_says_200 rfl ?_
                            refine j_ialdN i dX11_says_201 (shM hM sgM_4) (by omega) (by omega) ?_
                            refine j_topi (Z.1 12 i) (mr_arT hS (k := 2) (by omega) (by decide)) ?_
                            refine j_callV (kc := 0) (ks := 0) (a := 0) (b := 0) (d' := (d + 2)) (As := [.int (nI i), .int (Z.1 12 i)]) dX11_says_202 kX11_137 rfl (shM hM sgM_0) (by omega) rfl rfl rfl (Nat.le_of_ble_eq_true rfl) (Nat.le_of_ble_eq_true rfl) (T_X11_hums hM hS okS i (by omega) (Z.1 12 i) (isC_P okS (okS.th hi).2.2.1)) (kk_p ?_)
                            refine j_iret dX11_says_205 rfl ?_
                            have hz : saysK Z q k = ((humT Z.1 i (Z.1 12 i)), Z) := by
                              clear hQ
                              clear cv hM hS ok
                              have h01 := (okS.th hi).2.2.2
                              have hcl := nI_clamp (show i < 2 ^ 31 by omega)
                              have hin := i_ok hi (show nT Z.1 < 2 ^ 31 by omega)
                              have hone := one_all (q := q) (okS.th hi).1
                              have hsf := sfar_c (c := Z.1 12 i)
                              rw [← hp] at hin hcl
                              grind [saysK, cif, saysI, inZ, humT, lossT, may_1]
                            exact hQ _ _ ⟨by rw [hz], by rw [hz]; exact cv⟩
                          by_cases c292 : q = 5
                          · refine j_tableIn (tgt := 206) dX11_says_136 (by rw [c292]; decide) (by rw [c292]; decide) (off := 70) (by rw [c292]; decide) rfl ?_
                            refine j_aload_n 3 dX11_says_206 rfl ?_
                            refine j_iload_n 2 dX11_says_207 rfl ?_
                            refine j_callV (kc := 0) (ks := 0) (a := 0) (b := 0) (d' := d) (As := [.int (nI i)]) dX11_says_208 kX11_141 rfl (shM hM sgM_0) (by omega) rfl rfl rfl (Nat.le_of_ble_eq_true rfl) (Nat.le_of_ble_eq_true rfl) (T_X11_loss hM hS okS i (by omega)) (kk_p ?_)
                            refine j_iret dX11_says_211 rfl ?_
                            have hz : saysK Z q k = ((lossT Z.1 i), Z) := by
                              clear hQ
                              clear cv hM hS ok
                              have h01 := (okS.th hi).2.2.2
                              have hcl := nI_clamp (show i < 2 ^ 31 by omega)
                              have hin := i_ok hi (show nT Z.1 < 2 ^ 31 by omega)
                              have hone := one_all (q := q) (okS.th hi).1
                              have hsf := sfar_c (c := Z.1 12 i)
                              rw [← hp] at hin hcl
                              grind [saysK, cif, saysI, inZ, humT, lossT, may_1]
                            exact hQ _ _ ⟨by rw [hz], by rw [hz]; exact cv⟩
                          by_cases c293 : q = 6
                          · refine j_tableIn (tgt := 194) dX11_says_136 (by rw [c293]; decide) (by rw [c293]; decide) (off := 58) (by rw [c293]; decide) rfl ?_
                            refine j_aload_n 3 dX11_says_194 rfl ?_
                            refine j_iload_n 2 dX11_says_195 rfl ?_
                            refine j_aload_n 3 dX11_says_196 rfl ?_
                            refine j_getr (q := 4) dX11_says_197 fX11_35 (shM hM sgM_0) rfl (rfM hM rfM_0_12) ?_
                            refine j_iload_n 2 dX11_says_200 rfl ?_
                            refine j_ialdN i dX11_says_201 (shM hM sgM_4) (by omega) (by omega) ?_
                            refine j_topi (Z.1 12 i) (mr_arT hS (k := 2) (by omega) (by decide)) ?_
                            refine j_callV (kc := 0) (ks := 0) (a := 0) (b := 0) (d' := (d + 2)) (As := [.int (nI i), .int (Z.1 12 i)]) dX11_says_202 kX11_137 rfl (shM hM sgM_0) (by omega) rfl rfl rfl (Nat.le_of_ble_eq_true rfl) (Nat.le_of_ble_eq_true rfl) (T_X11_hums hM hS okS i (by omega) (Z.1 12 i) (isC_P okS (okS.th hi).2.2.1)) (kk_p ?_)
                            refine j_iret dX11_says_205 rfl ?_
                            have hz : saysK Z q k = ((humT Z.1 i (Z.1 12 i)), Z) := by
                              clear hQ
                              clear cv hM hS ok
                              have h01 := (okS.th hi).2.2.2
                              have hcl := nI_clamp (show i < 2 ^ 31 by omega)
                              have hin := i_ok hi (show nT Z.1 < 2 ^ 31 by omega)
                              have hone := one_all (q := q) (okS.th hi).1
                              have hsf := sfar_c (c := Z.1 12 i)
                              rw [← hp] at hin hcl
                              grind [saysK, cif, saysI, inZ, humT, lossT, may_1]
                            exact hQ _ _ ⟨by rw [hz], by rw [hz]; exact cv⟩
                          refine j_tableOut (tgt := 206) dX11_says_136 (by have q0 := lv_neT c287 (a := 0) (by decide); have q1 := lv_neT c288 (a := 1) (by decide); have q2 := lv_neT c289 (a := 2) (by decide); have q3 := lv_neT c290 (a := 3) (by decide); have q4 := lv_neT c291 (a := 4) (by decide); have q5 := lv_neT c292 (a := 5) (by decide); have q6 := lv_neT c293 (a := 6) (by decide); omega) rfl ?_
                          refine j_aload_n 3 dX11_says_206 rfl ?_
                          refine j_iload_n 2 dX11_says_207 rfl ?_
                          refine j_callV (kc := 0) (ks := 0) (a := 0) (b := 0) (d' := d) (As := [.int (nI i)]) dX11_says_208 kX11_141 rfl (shM hM sgM_0) (by omega) rfl rfl rfl (Nat.le_of_ble_eq_true rfl) (Nat.le_of_ble_eq_true rfl) (T_X11_loss hM hS okS i (by omega)) (kk_p ?_)
                          refine j_iret dX11_says_211 rfl ?_
                          have hz : saysK Z q k = ((lossT Z.1 i), Z) := by
                            clear hQ
                            clear cv hM hS ok
                            have h01 := (okS.th hi).2.2.2
                            have hcl := nI_clamp (show i < 2 ^ 31 by omega)
                            have hin := i_ok hi (show nT Z.1 < 2 ^ 31 by omega)
                            have hone := one_all (q := q) (okS.th hi).1
                            have hsf := sfar_c (c := Z.1 12 i)
                            rw [← hp] at hin hcl
                            grind [saysK, cif, saysI, inZ, humT, lossT, may_1]
                          exact hQ _ _ ⟨by rw [hz], by rw [hz]; exact cv⟩
                        · exact absurd c285 (by decide)
                  · refine j_iload_n 4 dX11_says_94 rfl ?_
                    refine j_iconst 4 dX11_says_95 ic_4 ?_
                    refine j_icmp_ne (tgt := 110) dX11_says_96 rfl (fun c294 => ?_) (fun c294 => ?_)
                    · refine j_iconst 0 dX11_says_110 ic_0 ?_
                      refine j_istore (L' := [(5, .int 0), (4, .int (Z.1 10 i)), (3, .int (nI i)), (0, .ref 0), (1, .int (nI k)), (2, .int q)]) dX11_says_111 (by decide) rfl ?_
                      refine j_iload_n 5 dX11_says_113 rfl ?_
                      refine j_if_eq (tgt := 135) dX11_says_114 rfl (fun c295 => ?_) (fun c295 => ?_)
                      · refine j_iload_n 5 dX11_says_135 rfl ?_
                        by_cases c297 : q = 0
                        · refine j_tableIn (tgt := 180) dX11_says_136 (by rw [c297]; decide) (by rw [c297]; decide) (off := 44) (by rw [c297]; decide) rfl ?_
                          refine j_aload_n 3 dX11_says_180 rfl ?_
                          refine j_getr (q := 4) dX11_says_181 fX11_35 (shM hM sgM_0) rfl (rfM hM rfM_0_12) ?_
                          refine j_iload_n 2 dX11_says_184 rfl ?_
                          refine j_ialdN i dX11_says_185 (shM hM sgM_4) (by omega) (by omega) ?_
                          refine j_topi (Z.1 12 i) (mr_arT hS (k := 2) (by omega) (by decide)) ?_
                          refine j_iret dX11_says_186 rfl ?_
                          have hz : saysK Z q k = ((Z.1 12 i), Z) := by
                            clear hQ
                            clear cv hM hS ok
                            have h01 := (okS.th hi).2.2.2
                            have hcl := nI_clamp (show i < 2 ^ 31 by omega)
                            have hin := i_ok hi (show nT Z.1 < 2 ^ 31 by omega)
                            have hone := one_all (q := q) (okS.th hi).1
                            have hsf := sfar_c (c := Z.1 12 i)
                            rw [← hp] at hin hcl
                            grind [saysK, cif, saysI, inZ, humT, lossT, may_1]
                          exact hQ _ _ ⟨by rw [hz], by rw [hz]; exact cv⟩
                        by_cases c298 : q = 1
                        · refine j_tableIn (tgt := 206) dX11_says_136 (by rw [c298]; decide) (by rw [c298]; decide) (off := 70) (by rw [c298]; decide) rfl ?_
                          refine j_aload_n 3 dX11_says_206 rfl ?_
                          refine j_iload_n 2 dX11_says_207 rfl ?_
                          refine j_callV (kc := 0) (ks := 0) (a := 0) (b := 0) (d' := d) (As := [.int (nI i)]) dX11_says_208 kX11_141 rfl (shM hM sgM_0) (by omega) rfl rfl rfl (Nat.le_of_ble_eq_true rfl) (Nat.le_of_ble_eq_true rfl) (T_X11_loss hM hS okS i (by omega)) (kk_p ?_)
                          refine j_iret dX11_says_211 rfl ?_
                          have hz : saysK Z q k = ((lossT Z.1 i), Z) := by
                            clear hQ
                            clear cv hM hS ok
                            have h01 := (okS.th hi).2.2.2
                            have hcl := nI_clamp (show i < 2 ^ 31 by omega)
                            have hin := i_ok hi (show nT Z.1 < 2 ^ 31 by omega)
                            have hone := one_all (q := q) (okS.th hi).1
                            have hsf := sfar_c (c := Z.1 12 i)
                            rw [← hp] at hin hcl
                            grind [saysK, cif, saysI, inZ, humT, lossT, may_1]
                          exact hQ _ _ ⟨by rw [hz], by rw [hz]; exact cv⟩
                        by_cases c299 : q = 2
                        · refine j_tableIn (tgt := 187) dX11_says_136 (by rw [c299]; decide) (by rw [c299]; decide) (off := 51) (by rw [c299]; decide) rfl ?_
                          refine j_aload_n 3 dX11_says_187 rfl ?_
                          refine j_getr (q := 5) dX11_says_188 fX11_38 (shM hM sgM_0) rfl (rfM hM rfM_0_13) ?_
                          refine j_iload_n 2 dX11_says_191 rfl ?_
                          refine j_ialdN i dX11_says_192 (shM hM sgM_5) (by omega) (by omega) ?_
                          refine j_topi (Z.1 13 i) (mr_arT hS (k := 3) (by omega) (by decide)) ?_
                          refine j_iret dX11_says_193 rfl ?_
                          have hz : saysK Z q k = ((Z.1 13 i), Z) := by
                            clear hQ
                            clear cv hM hS ok
                            have h01 := (okS.th hi).2.2.2
                            have hcl := nI_clamp (show i < 2 ^ 31 by omega)
                            have hin := i_ok hi (show nT Z.1 < 2 ^ 31 by omega)
                            have hone := one_all (q := q) (okS.th hi).1
                            have hsf := sfar_c (c := Z.1 12 i)
                            rw [← hp] at hin hcl
                            grind [saysK, cif, saysI, inZ, humT, lossT, may_1]
                          exact hQ _ _ ⟨by rw [hz], by rw [hz]; exact cv⟩
                        by_cases c300 : q = 3
                        · refine j_tableIn (tgt := 206) dX11_says_136 (by rw [c300]; decide) (by rw [c300]; decide) (off := 70) (by rw [c300]; decide) rfl ?_
                          refine j_aload_n 3 dX11_says_206 rfl ?_
                          refine j_iload_n 2 dX11_says_207 rfl ?_
                          refine j_callV (kc := 0) (ks := 0) (a := 0) (b := 0) (d' := d) (As := [.int (nI i)]) dX11_says_208 kX11_141 rfl (shM hM sgM_0) (by omega) rfl rfl rfl (Nat.le_of_ble_eq_true rfl) (Nat.le_of_ble_eq_true rfl) (T_X11_loss hM hS okS i (by omega)) (kk_p ?_)
                          refine j_iret dX11_says_211 rfl ?_
                          have hz : saysK Z q k = ((lossT Z.1 i), Z) := by
                            clear hQ
                            clear cv hM hS ok
                            have h01 := (okS.th hi).2.2.2
                            have hcl := nI_clamp (show i < 2 ^ 31 by omega)
                            have hin := i_ok hi (show nT Z.1 < 2 ^ 31 by omega)
                            have hone := one_all (q := q) (okS.th hi).1
                            have hsf := sfar_c (c := Z.1 12 i)
                            rw [← hp] at hin hcl
                            grind [saysK, cif, saysI, inZ, humT, lossT, may_1]
                          exact hQ _ _ ⟨by rw [hz], by rw [hz]; exact cv⟩
                        by_cases c301 : q = 4
                        · refine j_tableIn (tgt := 194) dX11_says_136 (by rw [c301]; decide) (by rw [c301]; decide) (off := 58) (by rw [c301]; decide) rfl ?_
                          refine j_aload_n 3 dX11_says_194 rfl ?_
                          refine j_iload_n 2 dX11_says_195 rfl ?_
                          refine j_aload_n 3 dX11_says_196 rfl ?_
                          refine j_getr (q := 4) dX11_says_197 fX11_35 (shM hM sgM_0) rfl (rfM hM rfM_0_12) ?_
                          refine j_iload_n 2 dX11_says_200 rfl ?_
                          refine j_ialdN i dX11_says_201 (shM hM sgM_4) (by omega) (by omega) ?_
                          refine j_topi (Z.1 12 i) (mr_arT hS (k := 2) (by omega) (by decide)) ?_
                          refine j_callV (kc := 0) (ks := 0) (a := 0) (b := 0) (d' := (d + 2)) (As := [.int (nI i), .int (Z.1 12 i)]) dX11_says_202 kX11_137 rfl (shM hM sgM_0) (by omega) rfl rfl rfl (Nat.le_of_ble_eq_true rfl) (Nat.le_of_ble_eq_true rfl) (T_X11_hums hM hS okS i (by omega) (Z.1 12 i) (isC_P okS (okS.th hi).2.2.1)) (kk_p ?_)
                          refine j_iret dX11_says_205 rfl ?_
                          have hz : saysK Z q k = ((humT Z.1 i (Z.1 12 i)), Z) := by
                            clear hQ
                            clear cv hM hS ok
                            have h01 := (okS.th hi).2.2.2
                            have hcl := nI_clamp (show i < 2 ^ 31 by omega)
                            have hin := i_ok hi (show nT Z.1 < 2 ^ 31 by omega)
                            have hone := one_all (q := q) (okS.th hi).1
                            have hsf := sfar_c (c := Z.1 12 i)
                            rw [← hp] at hin hcl
                            grind [saysK, cif, saysI, inZ, humT, lossT, may_1]
                          exact hQ _ _ ⟨by rw [hz], by rw [hz]; exact cv⟩
                        by_cases c302 : q = 5
                        · refine j_tableIn (tgt := 206) dX11_says_136 (by rw [c302]; decide) (by rw [c302]; decide) (off := 70) (by rw [c302]; decide) rfl ?_
                          refine j_aload_n 3 dX11_says_206 rfl ?_
                          refine j_iload_n 2 dX11_says_207 rfl ?_
                          refine j_callV (kc := 0) (ks := 0) (a := 0) (b := 0) (d' := d) (As := [.int (nI i)]) dX11_says_208 kX11_141 rfl (shM hM sgM_0) (by omega) rfl rfl rfl (Nat.le_of_ble_eq_true rfl) (Nat.le_of_ble_eq_true rfl) (T_X11_loss hM hS okS i (by omega)) (kk_p ?_)
                          refine j_iret dX11_says_211 rfl ?_
                          have hz : saysK Z q k = ((lossT Z.1 i), Z) := by
                            clear hQ
                            clear cv hM hS ok
                            have h01 := (okS.th hi).2.2.2
                            have hcl := nI_clamp (show i < 2 ^ 31 by omega)
                            have hin := i_ok hi (show nT Z.1 < 2 ^ 31 by omega)
                            have hone := one_all (q := q) (okS.th hi).1
                            have hsf := sfar_c (c := Z.1 12 i)
                            rw [← hp] at hin hcl
                            grind [saysK, cif, saysI, inZ, humT, lossT, may_1]
                          exact hQ _ _ ⟨by rw [hz], by rw [hz]; exact cv⟩
                        by_cases c303 : q = 6
                        · refine j_tableIn (tgt := 194) dX11_says_136 (by rw [c303]; decide) (by rw [c303]; decide) (off := 58) (by rw [c303]; decide) rfl ?_
                          refine j_aload_n 3 dX11_says_194 rfl ?_
                          refine j_iload_n 2 dX11_says_195 rfl ?_
                          refine j_aload_n 3 dX11_says_196 rfl ?_
                          refine j_getr (q := 4) dX11_says_197 fX11_35 (shM hM sgM_0) rfl (rfM hM rfM_0_12) ?_
                          refine j_iload_n 2 dX11_says_200 rfl ?_
                          refine j_ialdN i dX11_says_201 (shM hM sgM_4) (by omega) (by omega) ?_
                          refine j_topi (Z.1 12 i) (mr_arT hS (k := 2) (by omega) (by decide)) ?_
                          refine j_callV (kc := 0) (ks := 0) (a := 0) (b := 0) (d' := (d + 2)) (As := [.int (nI i), .int (Z.1 12 i)]) dX11_says_202 kX11_137 rfl (shM hM sgM_0) (by omega) rfl rfl rfl (Nat.le_of_ble_eq_true rfl) (Nat.le_of_ble_eq_true rfl) (T_X11_hums hM hS okS i (by omega) (Z.1 12 i) (isC_P okS (okS.th hi).2.2.1)) (kk_p ?_)
                          refine j_iret dX11_says_205 rfl ?_
                          have hz : saysK Z q k = ((humT Z.1 i (Z.1 12 i)), Z) := by
                            clear hQ
                            clear cv hM hS ok
                            have h01 := (okS.th hi).2.2.2
                            have hcl := nI_clamp (show i < 2 ^ 31 by omega)
                            have hin := i_ok hi (show nT Z.1 < 2 ^ 31 by omega)
                            have hone := one_all (q := q) (okS.th hi).1
                            have hsf := sfar_c (c := Z.1 12 i)
                            rw [← hp] at hin hcl
                            grind [saysK, cif, saysI, inZ, humT, lossT, may_1]
                          exact hQ _ _ ⟨by rw [hz], by rw [hz]; exact cv⟩
                        refine j_tableOut (tgt := 206) dX11_says_136 (by have q0 := lv_neT c297 (a := 0) (by decide); have q1 := lv_neT c298 (a := 1) (by decide); have q2 := lv_neT c299 (a := 2) (by decide); have q3 := lv_neT c300 (a := 3) (by decide); have q4 := lv_neT c301 (a := 4) (by decide); have q5 := lv_neT c302 (a := 5) (by decide); have q6 := lv_neT c303 (a := 6) (by decide); omega) rfl ?_
                        refine j_aload_n 3 dX11_says_206 rfl ?_
                        refine j_iload_n 2 dX11_says_207 rfl ?_
                        refine j_callV (kc := 0) (ks := 0) (a := 0) (b := 0) (d' := d) (As := [.int (nI i)]) dX11_says_208 kX11_141 rfl (shM hM sgM_0) (by omega) rfl rfl rfl (Nat.le_of_ble_eq_true rfl) (Nat.le_of_ble_eq_true rfl) (T_X11_loss hM hS okS i (by omega)) (kk_p ?_)
                        refine j_iret dX11_says_211 rfl ?_
                        have hz : saysK Z q k = ((lossT Z.1 i), Z) := by
                          clear hQ
                          clear cv hM hS ok
                          have h01 := (okS.th hi).2.2.2
                          have hcl := nI_clamp (show i < 2 ^ 31 by omega)
                          have hin := i_ok hi (show nT Z.1 < 2 ^ 31 by omega)
                          have hone := one_all (q := q) (okS.th hi).1
                          have hsf := sfar_c (c := Z.1 12 i)
                          rw [← hp] at hin hcl
                          grind [saysK, cif, saysI, inZ, humT, lossT, may_1]
                        exact hQ _ _ ⟨by rw [hz], by rw [hz]; exact cv⟩
                      · refine j_iload_n 5 dX11_says_117 rfl ?_
                        refine j_iload 1 dX11_says_118 rfl ?_
                        refine j_icmp_eq (tgt := 135) dX11_says_120 rfl (fun c304 => ?_) (fun c304 => ?_)
                        · refine j_iload_n 5 dX11_says_135 rfl ?_
                          by_cases c306 : q = 0
                          · refine j_tableIn (tgt := 180) dX11_says_136 (by rw [c306]; decide) (by rw [c306]; decide) (off := 44) (by rw [c306]; decide) rfl ?_
                            refine j_aload_n 3 dX11_says_180 rfl ?_
                            refine j_getr (q := 4) dX11_says_181 fX11_35 (shM hM sgM_0) rfl (rfM hM rfM_0_12) ?_
                            refine j_iload_n 2 dX11_says_184 rfl ?_
                            refine j_ialdN i dX11_says_185 (shM hM sgM_4) (by omega) (by omega) ?_
                            refine j_topi (Z.1 12 i) (mr_arT hS (k := 2) (by omega) (by decide)) ?_
                            refine j_iret dX11_says_186 rfl ?_
                            have hz : saysK Z q k = ((Z.1 12 i), Z) := by
                              clear hQ
                              clear cv hM hS ok
                              have h01 := (okS.th hi).2.2.2
                              have hcl := nI_clamp (show i < 2 ^ 31 by omega)
                              have hin := i_ok hi (show nT Z.1 < 2 ^ 31 by omega)
                              have hone := one_all (q := q) (okS.th hi).1
                              have hsf := sfar_c (c := Z.1 12 i)
                              rw [← hp] at hin hcl
                              grind [saysK, cif, saysI, inZ, humT, lossT, may_1]
                            exact hQ _ _ ⟨by rw [hz], by rw [hz]; exact cv⟩
                          by_cases c307 : q = 1
                          · refine j_tableIn (tgt := 206) dX11_says_136 (by rw [c307]; decide) (by rw [c307]; decide) (off := 70) (by rw [c307]; decide) rfl ?_
                            refine j_aload_n 3 dX11_says_206 rfl ?_
                            refine j_iload_n 2 dX11_says_207 rfl ?_
                            refine j_callV (kc := 0) (ks := 0) (a := 0) (b := 0) (d' := d) (As := [.int (nI i)]) dX11_says_208 kX11_141 rfl (shM hM sgM_0) (by omega) rfl rfl rfl (Nat.le_of_ble_eq_true rfl) (Nat.le_of_ble_eq_true rfl) (T_X11_loss hM hS okS i (by omega)) (kk_p ?_)
                            refine j_iret dX11_says_211 rfl ?_
                            have hz : saysK Z q k = ((lossT Z.1 i), Z) := by
                              clear hQ
                              clear cv hM hS ok
                              have h01 := (okS.th hi).2.2.2
                              have hcl := nI_clamp (show i < 2 ^ 31 by omega)
                              have hin := i_ok hi (show nT Z.1 < 2 ^ 31 by omega)
                              have hone := one_all (q := q) (okS.th hi).1
                              have hsf := sfar_c (c := Z.1 12 i)
                              rw [← hp] at hin hcl
                              grind [saysK, cif, saysI, inZ, humT, lossT, may_1]
                            exact hQ _ _ ⟨by rw [hz], by rw [hz]; exact cv⟩
                          by_cases c308 : q = 2
                          · refine j_tableIn (tgt := 187) dX11_says_136 (by rw [c308]; decide) (by rw [c308]; decide) (off := 51) (by rw [c308]; decide) rfl ?_
                            refine j_aload_n 3 dX11_says_187 rfl ?_
                            refine j_getr (q := 5) dX11_says_188 fX11_38 (shM hM sgM_0) rfl (rfM hM rfM_0_13) ?_
                            refine j_iload_n 2 dX11_says_191 rfl ?_
                            refine j_ialdN i dX11_says_192 (shM hM sgM_5) (by omega) (by omega) ?_
                            refine j_topi (Z.1 13 i) (mr_arT hS (k := 3) (by omega) (by decide)) ?_
                            refine j_iret dX11_says_193 rfl ?_
                            have hz : saysK Z q k = ((Z.1 13 i), Z) := by
                              clear hQ
                              clear cv hM hS ok
                              have h01 := (okS.th hi).2.2.2
                              have hcl := nI_clamp (show i < 2 ^ 31 by omega)
                              have hin := i_ok hi (show nT Z.1 < 2 ^ 31 by omega)
                              have hone := one_all (q := q) (okS.th hi).1
                              have hsf := sfar_c (c := Z.1 12 i)
                              rw [← hp] at hin hcl
                              grind [saysK, cif, saysI, inZ, humT, lossT, may_1]
                            exact hQ _ _ ⟨by rw [hz], by rw [hz]; exact cv⟩
                          by_cases c309 : q = 3
                          · refine j_tableIn (tgt := 206) dX11_says_136 (by rw [c309]; decide) (by rw [c309]; decide) (off := 70) (by rw [c309]; decide) rfl ?_
                            refine j_aload_n 3 dX11_says_206 rfl ?_
                            refine j_iload_n 2 dX11_says_207 rfl ?_
                            refine j_callV (kc := 0) (ks := 0) (a := 0) (b := 0) (d' := d) (As := [.int (nI i)]) dX11_says_208 kX11_141 rfl (shM hM sgM_0) (by omega) rfl rfl rfl (Nat.le_of_ble_eq_true rfl) (Nat.le_of_ble_eq_true rfl) (T_X11_loss hM hS okS i (by omega)) (kk_p ?_)
                            refine j_iret dX11_says_211 rfl ?_
                            have hz : saysK Z q k = ((lossT Z.1 i), Z) := by
                              clear hQ
                              clear cv hM hS ok
                              have h01 := (okS.th hi).2.2.2
                              have hcl := nI_clamp (show i < 2 ^ 31 by omega)
                              have hin := i_ok hi (show nT Z.1 < 2 ^ 31 by omega)
                              have hone := one_all (q := q) (okS.th hi).1
                              have hsf := sfar_c (c := Z.1 12 i)
                              rw [← hp] at hin hcl
                              grind [saysK, cif, saysI, inZ, humT, lossT, may_1]
                            exact hQ _ _ ⟨by rw [hz], by rw [hz]; exact cv⟩
                          by_cases c310 : q = 4
                          · refine j_tableIn (tgt := 194) dX11_says_136 (by rw [c310]; decide) (by rw [c310]; decide) (off := 58) (by rw [c310]; decide) rfl ?_
                            refine j_aload_n 3 dX11_says_194 rfl ?_
                            refine j_iload_n 2 dX11_says_195 rfl ?_
                            refine j_aload_n 3 dX11_says_196 rfl ?_
                            refine j_getr (q := 4) dX11_says_197 fX11_35 (shM hM sgM_0) rfl (rfM hM rfM_0_12) ?_
                            refine j_iload_n 2 dX11_says_200 rfl ?_
                            refine j_ialdN i dX11_says_201 (shM hM sgM_4) (by omega) (by omega) ?_
                            refine j_topi (Z.1 12 i) (mr_arT hS (k := 2) (by omega) (by decide)) ?_
                            refine j_callV (kc := 0) (ks := 0) (a := 0) (b := 0) (d' := (d + 2)) (As := [.int (nI i), .int (Z.1 12 i)]) dX11_says_202 kX11_137 rfl (shM hM sgM_0) (by omega) rfl rfl rfl (Nat.le_of_ble_eq_true rfl) (Nat.le_of_ble_eq_true rfl) (T_X11_hums hM hS okS i (by omega) (Z.1 12 i) (isC_P okS (okS.th hi).2.2.1)) (kk_p ?_)
                            refine j_iret dX11_says_205 rfl ?_
                            have hz : saysK Z q k = ((humT Z.1 i (Z.1 12 i)), Z) := by
                              clear hQ
                              clear cv hM hS ok
                              have h01 := (okS.th hi).2.2.2
                              have hcl := nI_clamp (show i < 2 ^ 31 by omega)
                              have hin := i_ok hi (show nT Z.1 < 2 ^ 31 by omega)
                              have hone := one_all (q := q) (okS.th hi).1
                              have hsf := sfar_c (c := Z.1 12 i)
                              rw [← hp] at hin hcl
                              grind [saysK, cif, saysI, inZ, humT, lossT, may_1]
                            exact hQ _ _ ⟨by rw [hz], by rw [hz]; exact cv⟩
                          by_cases c311 : q = 5
                          · refine j_tableIn (tgt := 206) dX11_says_136 (by rw [c311]; decide) (by rw [c311]; decide) (off := 70) (by rw [c311]; decide) rfl ?_
                            refine j_aload_n 3 dX11_says_206 rfl ?_
                            refine j_iload_n 2 dX11_says_207 rfl ?_
                            refine j_callV (kc := 0) (ks := 0) (a := 0) (b := 0) (d' := d) (As := [.int (nI i)]) dX11_says_208 kX11_141 rfl (shM hM sgM_0) (by omega) rfl rfl rfl (Nat.le_of_ble_eq_true rfl) (Nat.le_of_ble_eq_true rfl) (T_X11_loss hM hS okS i (by omega)) (kk_p ?_)
                            refine j_iret dX11_says_211 rfl ?_
                            have hz : saysK Z q k = ((lossT Z.1 i), Z) := by
                              clear hQ
                              clear cv hM hS ok
                              have h01 := (okS.th hi).2.2.2
                              have hcl := nI_clamp (show i < 2 ^ 31 by omega)
                              have hin := i_ok hi (show nT Z.1 < 2 ^ 31 by omega)
                              have hone := one_all (q := q) (okS.th hi).1
                              have hsf := sfar_c (c := Z.1 12 i)
                              rw [← hp] at hin hcl
                              grind [saysK, cif, saysI, inZ, humT, lossT, may_1]
                            exact hQ _ _ ⟨by rw [hz], by rw [hz]; exact cv⟩
                          by_cases c312 : q = 6
                          · refine j_tableIn (tgt := 194) dX11_says_136 (by rw [c312]; decide) (by rw [c312]; decide) (off := 58) (by rw [c312]; decide) rfl ?_
                            refine j_aload_n 3 dX11_says_194 rfl ?_
                            refine j_iload_n 2 dX11_says_195 rfl ?_
                            refine j_aload_n 3 dX11_says_196 rfl ?_
                            refine j_getr (q := 4) dX11_says_197 fX11_35 (shM hM sgM_0) rfl (rfM hM rfM_0_12) ?_
                            refine j_iload_n 2 dX11_says_200 rfl ?_
                            refine j_ialdN i dX11_says_201 (shM hM sgM_4) (by omega) (by omega) ?_
                            refine j_topi (Z.1 12 i) (mr_arT hS (k := 2) (by omega) (by decide)) ?_
                            refine j_callV (kc := 0) (ks := 0) (a := 0) (b := 0) (d' := (d + 2)) (As := [.int (nI i), .int (Z.1 12 i)]) dX11_says_202 kX11_137 rfl (shM hM sgM_0) (by omega) rfl rfl rfl (Nat.le_of_ble_eq_true rfl) (Nat.le_of_ble_eq_true rfl) (T_X11_hums hM hS okS i (by omega) (Z.1 12 i) (isC_P okS (okS.th hi).2.2.1)) (kk_p ?_)
                            refine j_iret dX11_says_205 rfl ?_
                            have hz : saysK Z q k = ((humT Z.1 i (Z.1 12 i)), Z) := by
                              clear hQ
                              clear cv hM hS ok
                              have h01 := (okS.th hi).2.2.2
                              have hcl := nI_clamp (show i < 2 ^ 31 by omega)
                              have hin := i_ok hi (show nT Z.1 < 2 ^ 31 by omega)
                              have hone := one_all (q := q) (okS.th hi).1
                              have hsf := sfar_c (c := Z.1 12 i)
                              rw [← hp] at hin hcl
                              grind [saysK, cif, saysI, inZ, humT, lossT, may_1]
                            exact hQ _ _ ⟨by rw [hz], by rw [hz]; exact cv⟩
                          refine j_tableOut (tgt := 206) dX11_says_136 (by have q0 := lv_neT c306 (a := 0) (by decide); have q1 := lv_neT c307 (a := 1) (by decide); have q2 := lv_neT c308 (a := 2) (by decide); have q3 := lv_neT c309 (a := 3) (by decide); have q4 := lv_neT c310 (a := 4) (by decide); have q5 := lv_neT c311 (a := 5) (by decide); have q6 := lv_neT c312 (a := 6) (by decide); omega) rfl ?_
                          refine j_aload_n 3 dX11_says_206 rfl ?_
                          refine j_iload_n 2 dX11_says_207 rfl ?_
                          refine j_callV (kc := 0) (ks := 0) (a := 0) (b := 0) (d' := d) (As := [.int (nI i)]) dX11_says_208 kX11_141 rfl (shM hM sgM_0) (by omega) rfl rfl rfl (Nat.le_of_ble_eq_true rfl) (Nat.le_of_ble_eq_true rfl) (T_X11_loss hM hS okS i (by omega)) (kk_p ?_)
                          refine j_iret dX11_says_211 rfl ?_
                          have hz : saysK Z q k = ((lossT Z.1 i), Z) := by
                            clear hQ
                            clear cv hM hS ok
                            have h01 := (okS.th hi).2.2.2
                            have hcl := nI_clamp (show i < 2 ^ 31 by omega)
                            have hin := i_ok hi (show nT Z.1 < 2 ^ 31 by omega)
                            have hone := one_all (q := q) (okS.th hi).1
                            have hsf := sfar_c (c := Z.1 12 i)
                            rw [← hp] at hin hcl
                            grind [saysK, cif, saysI, inZ, humT, lossT, may_1]
                          exact hQ _ _ ⟨by rw [hz], by rw [hz]; exact cv⟩
                        · refine j_iload 0 dX11_says_123 rfl ?_
                          refine j_if_ne (tgt := 135) dX11_says_125 rfl (fun c313 => ?_) (fun c313 => ?_)
                          · exact absurd c313 (by decide)
                          · refine j_aload_n 3 dX11_says_128 rfl ?_
                            refine j_bipush (-2) dX11_says_129 bp_n2 ?_
                            refine j_callV (kc := 0) (ks := 0) (a := 0) (b := 0) (d' := d) (As := [.int (-2)]) dX11_says_131 kX11_130 rfl (shM hM sgM_0) (by omega) rfl rfl rfl (Nat.le_of_ble_eq_true rfl) (Nat.le_of_ble_eq_true rfl) (T_X11_no hM (-2) (by decide)) (kk_p ?_)
                            refine j_iret dX11_says_134 rfl ?_
                            have hz : saysK Z q k = ((-2), (refZ Z (-2))) := by
                              clear hQ
                              clear cv hM hS ok
                              have h01 := (okS.th hi).2.2.2
                              have hcl := nI_clamp (show i < 2 ^ 31 by omega)
                              have hin := i_ok hi (show nT Z.1 < 2 ^ 31 by omega)
                              have hone := one_all (q := q) (okS.th hi).1
                              have hsf := sfar_c (c := Z.1 12 i)
                              rw [← hp] at hin hcl
                              grind [saysK, cif, saysI, inZ, humT, lossT, may_1]
                            exact hQ _ _ ⟨by rw [hz], by rw [hz]; exact MV.rf cv (by decide)⟩
                    · refine j_iload 0 dX11_says_99 rfl ?_
                      refine j_bipush 6 dX11_says_101 bp_6 ?_
                      refine j_icmp_ne (tgt := 110) dX11_says_103 rfl (fun c314 => ?_) (fun c314 => ?_)
                      · refine j_iconst 0 dX11_says_110 ic_0 ?_
                        refine j_istore (L' := [(5, .int 0), (4, .int (Z.1 10 i)), (3, .int (nI i)), (0, .ref 0), (1, .int (nI k)), (2, .int q)]) dX11_says_111 (by decide) rfl ?_
                        refine j_iload_n 5 dX11_says_113 rfl ?_
                        refine j_if_eq (tgt := 135) dX11_says_114 rfl (fun c315 => ?_) (fun c315 => ?_)
                        · refine j_iload_n 5 dX11_says_135 rfl ?_
                          by_cases c317 : q = 0
                          · refine j_tableIn (tgt := 180) dX11_says_136 (by rw [c317]; decide) (by rw [c317]; decide) (off := 44) (by rw [c317]; decide) rfl ?_
                            refine j_aload_n 3 dX11_says_180 rfl ?_
                            refine j_getr (q := 4) dX11_says_181 fX11_35 (shM hM sgM_0) rfl (rfM hM rfM_0_12) ?_
                            refine j_iload_n 2 dX11_says_184 rfl ?_
                            refine j_ialdN i dX11_says_185 (shM hM sgM_4) (by omega) (by omega) ?_
                            refine j_topi (Z.1 12 i) (mr_arT hS (k := 2) (by omega) (by decide)) ?_
                            refine j_iret dX11_says_186 rfl ?_
                            have hz : saysK Z q k = ((Z.1 12 i), Z) := by
                              clear hQ
                              clear cv hM hS ok
                              have h01 := (okS.th hi).2.2.2
                              have hcl := nI_clamp (show i < 2 ^ 31 by omega)
                              have hin := i_ok hi (show nT Z.1 < 2 ^ 31 by omega)
                              have hone := one_all (q := q) (okS.th hi).1
                              have hsf := sfar_c (c := Z.1 12 i)
                              rw [← hp] at hin hcl
                              grind [saysK, cif, saysI, inZ, humT, lossT, may_1]
                            exact hQ _ _ ⟨by rw [hz], by rw [hz]; exact cv⟩
                          by_cases c318 : q = 1
                          · refine j_tableIn (tgt := 206) dX11_says_136 (by rw [c318]; decide) (by rw [c318]; decide) (off := 70) (by rw [c318]; decide) rfl ?_
                            refine j_aload_n 3 dX11_says_206 rfl ?_
                            refine j_iload_n 2 dX11_says_207 rfl ?_
                            refine j_callV (kc := 0) (ks := 0) (a := 0) (b := 0) (d' := d) (As := [.int (nI i)]) dX11_says_208 kX11_141 rfl (shM hM sgM_0) (by omega) rfl rfl rfl (Nat.le_of_ble_eq_true rfl) (Nat.le_of_ble_eq_true rfl) (T_X11_loss hM hS okS i (by omega)) (kk_p ?_)
                            refine j_iret dX11_says_211 rfl ?_
                            have hz : saysK Z q k = ((lossT Z.1 i), Z) := by
                              clear hQ
                              clear cv hM hS ok
                              have h01 := (okS.th hi).2.2.2
                              have hcl := nI_clamp (show i < 2 ^ 31 by omega)
                              have hin := i_ok hi (show nT Z.1 < 2 ^ 31 by omega)
                              have hone := one_all (q := q) (okS.th hi).1
                              have hsf := sfar_c (c := Z.1 12 i)
                              rw [← hp] at hin hcl
                              grind [saysK, cif, saysI, inZ, humT, lossT, may_1]
                            exact hQ _ _ ⟨by rw [hz], by rw [hz]; exact cv⟩
                          by_cases c319 : q = 2
                          · refine j_tableIn (tgt := 187) dX11_says_136 (by rw [c319]; decide) (by rw [c319]; decide) (off := 51) (by rw [c319]; decide) rfl ?_
                            refine j_aload_n 3 dX11_says_187 rfl ?_
                            refine j_getr (q := 5) dX11_says_188 fX11_38 (shM hM sgM_0) rfl (rfM hM rfM_0_13) ?_
                            refine j_iload_n 2 dX11_says_191 rfl ?_
                            refine j_ialdN i dX11_says_192 (shM hM sgM_5) (by omega) (by omega) ?_
                            refine j_topi (Z.1 13 i) (mr_arT hS (k := 3) (by omega) (by decide)) ?_
                            refine j_iret dX11_says_193 rfl ?_
                            have hz : saysK Z q k = ((Z.1 13 i), Z) := by
                              clear hQ
                              clear cv hM hS ok
                              have h01 := (okS.th hi).2.2.2
                              have hcl := nI_clamp (show i < 2 ^ 31 by omega)
                              have hin := i_ok hi (show nT Z.1 < 2 ^ 31 by omega)
                              have hone := one_all (q := q) (okS.th hi).1
                              have hsf := sfar_c (c := Z.1 12 i)
                              rw [← hp] at hin hcl
                              grind [saysK, cif, saysI, inZ, humT, lossT, may_1]
                            exact hQ _ _ ⟨by rw [hz], by rw [hz]; exact cv⟩
                          by_cases c320 : q = 3
                          · refine j_tableIn (tgt := 206) dX11_says_136 (by rw [c320]; decide) (by rw [c320]; decide) (off := 70) (by rw [c320]; decide) rfl ?_
                            refine j_aload_n 3 dX11_says_206 rfl ?_
                            refine j_iload_n 2 dX11_says_207 rfl ?_
                            refine j_callV (kc := 0) (ks := 0) (a := 0) (b := 0) (d' := d) (As := [.int (nI i)]) dX11_says_208 kX11_141 rfl (shM hM sgM_0) (by omega) rfl rfl rfl (Nat.le_of_ble_eq_true rfl) (Nat.le_of_ble_eq_true rfl) (T_X11_loss hM hS okS i (by omega)) (kk_p ?_)
                            refine j_iret dX11_says_211 rfl ?_
                            have hz : saysK Z q k = ((lossT Z.1 i), Z) := by
                              clear hQ
                              clear cv hM hS ok
                              have h01 := (okS.th hi).2.2.2
                              have hcl := nI_clamp (show i < 2 ^ 31 by omega)
                              have hin := i_ok hi (show nT Z.1 < 2 ^ 31 by omega)
                              have hone := one_all (q := q) (okS.th hi).1
                              have hsf := sfar_c (c := Z.1 12 i)
                              rw [← hp] at hin hcl
                              grind [saysK, cif, saysI, inZ, humT, lossT, may_1]
                            exact hQ _ _ ⟨by rw [hz], by rw [hz]; exact cv⟩
                          by_cases c321 : q = 4
                          · refine j_tableIn (tgt := 194) dX11_says_136 (by rw [c321]; decide) (by rw [c321]; decide) (off := 58) (by rw [c321]; decide) rfl ?_
                            refine j_aload_n 3 dX11_says_194 rfl ?_
                            refine j_iload_n 2 dX11_says_195 rfl ?_
                            refine j_aload_n 3 dX11_says_196 rfl ?_
                            refine j_getr (q := 4) dX11_says_197 fX11_35 (shM hM sgM_0) rfl (rfM hM rfM_0_12) ?_
                            refine j_iload_n 2 dX11_says_200 rfl ?_
                            refine j_ialdN i dX11_says_201 (shM hM sgM_4) (by omega) (by omega) ?_
                            refine j_topi (Z.1 12 i) (mr_arT hS (k := 2) (by omega) (by decide)) ?_
                            refine j_callV (kc := 0) (ks := 0) (a := 0) (b := 0) (d' := (d + 2)) (As := [.int (nI i), .int (Z.1 12 i)]) dX11_says_202 kX11_137 rfl (shM hM sgM_0) (by omega) rfl rfl rfl (Nat.le_of_ble_eq_true rfl) (Nat.le_of_ble_eq_true rfl) (T_X11_hums hM hS okS i (by omega) (Z.1 12 i) (isC_P okS (okS.th hi).2.2.1)) (kk_p ?_)
                            refine j_iret dX11_says_205 rfl ?_
                            have hz : saysK Z q k = ((humT Z.1 i (Z.1 12 i)), Z) := by
                              clear hQ
                              clear cv hM hS ok
                              have h01 := (okS.th hi).2.2.2
                              have hcl := nI_clamp (show i < 2 ^ 31 by omega)
                              have hin := i_ok hi (show nT Z.1 < 2 ^ 31 by omega)
                              have hone := one_all (q := q) (okS.th hi).1
                              have hsf := sfar_c (c := Z.1 12 i)
                              rw [← hp] at hin hcl
                              grind [saysK, cif, saysI, inZ, humT, lossT, may_1]
                            exact hQ _ _ ⟨by rw [hz], by rw [hz]; exact cv⟩
                          by_cases c322 : q = 5
                          · refine j_tableIn (tgt := 206) dX11_says_136 (by rw [c322]; decide) (by rw [c322]; decide) (off := 70) (by rw [c322]; decide) rfl ?_
                            refine j_aload_n 3 dX11_says_206 rfl ?_
                            refine j_iload_n 2 dX11_says_207 rfl ?_
                            refine j_callV (kc := 0) (ks := 0) (a := 0) (b := 0) (d' := d) (As := [.int (nI i)]) dX11_says_208 kX11_141 rfl (shM hM sgM_0) (by omega) rfl rfl rfl (Nat.le_of_ble_eq_true rfl) (Nat.le_of_ble_eq_true rfl) (T_X11_loss hM hS okS i (by omega)) (kk_p ?_)
                            refine j_iret dX11_says_211 rfl ?_
                            have hz : saysK Z q k = ((lossT Z.1 i), Z) := by
                              clear hQ
                              clear cv hM hS ok
                              have h01 := (okS.th hi).2.2.2
                              have hcl := nI_clamp (show i < 2 ^ 31 by omega)
                              have hin := i_ok hi (show nT Z.1 < 2 ^ 31 by omega)
                              have hone := one_all (q := q) (okS.th hi).1
                              have hsf := sfar_c (c := Z.1 12 i)
                              rw [← hp] at hin hcl
                              grind [saysK, cif, saysI, inZ, humT, lossT, may_1]
                            exact hQ _ _ ⟨by rw [hz], by rw [hz]; exact cv⟩
                          by_cases c323 : q = 6
                          · refine j_tableIn (tgt := 194) dX11_says_136 (by rw [c323]; decide) (by rw [c323]; decide) (off := 58) (by rw [c323]; decide) rfl ?_
                            refine j_aload_n 3 dX11_says_194 rfl ?_
                            refine j_iload_n 2 dX11_says_195 rfl ?_
                            refine j_aload_n 3 dX11_says_196 rfl ?_
                            refine j_getr (q := 4) dX11_says_197 fX11_35 (shM hM sgM_0) rfl (rfM hM rfM_0_12) ?_
                            refine j_iload_n 2 dX11_says_200 rfl ?_
                            refine j_ialdN i dX11_says_201 (shM hM sgM_4) (by omega) (by omega) ?_
                            refine j_topi (Z.1 12 i) (mr_arT hS (k := 2) (by omega) (by decide)) ?_
                            refine j_callV (kc := 0) (ks := 0) (a := 0) (b := 0) (d' := (d + 2)) (As := [.int (nI i), .int (Z.1 12 i)]) dX11_says_202 kX11_137 rfl (shM hM sgM_0) (by omega) rfl rfl rfl (Nat.le_of_ble_eq_true rfl) (Nat.le_of_ble_eq_true rfl) (T_X11_hums hM hS okS i (by omega) (Z.1 12 i) (isC_P okS (okS.th hi).2.2.1)) (kk_p ?_)
                            refine j_iret dX11_says_205 rfl ?_
                            have hz : saysK Z q k = ((humT Z.1 i (Z.1 12 i)), Z) := by
                              clear hQ
                              clear cv hM hS ok
                              have h01 := (okS.th hi).2.2.2
                              have hcl := nI_clamp (show i < 2 ^ 31 by omega)
                              have hin := i_ok hi (show nT Z.1 < 2 ^ 31 by omega)
                              have hone := one_all (q := q) (okS.th hi).1
                              have hsf := sfar_c (c := Z.1 12 i)
                              rw [← hp] at hin hcl
                              grind [saysK, cif, saysI, inZ, humT, lossT, may_1]
                            exact hQ _ _ ⟨by rw [hz], by rw [hz]; exact cv⟩
                          refine j_tableOut (tgt := 206) dX11_says_136 (by have q0 := lv_neT c317 (a := 0) (by decide); have q1 := lv_neT c318 (a := 1) (by decide); have q2 := lv_neT c319 (a := 2) (by decide); have q3 := lv_neT c320 (a := 3) (by decide); have q4 := lv_neT c321 (a := 4) (by decide); have q5 := lv_neT c322 (a := 5) (by decide); have q6 := lv_neT c323 (a := 6) (by decide); omega) rfl ?_
                          refine j_aload_n 3 dX11_says_206 rfl ?_
                          refine j_iload_n 2 dX11_says_207 rfl ?_
                          refine j_callV (kc := 0) (ks := 0) (a := 0) (b := 0) (d' := d) (As := [.int (nI i)]) dX11_says_208 kX11_141 rfl (shM hM sgM_0) (by omega) rfl rfl rfl (Nat.le_of_ble_eq_true rfl) (Nat.le_of_ble_eq_true rfl) (T_X11_loss hM hS okS i (by omega)) (kk_p ?_)
                          refine j_iret dX11_says_211 rfl ?_
                          have hz : saysK Z q k = ((lossT Z.1 i), Z) := by
                            clear hQ
                            clear cv hM hS ok
                            have h01 := (okS.th hi).2.2.2
                            have hcl := nI_clamp (show i < 2 ^ 31 by omega)
                            have hin := i_ok hi (show nT Z.1 < 2 ^ 31 by omega)
                            have hone := one_all (q := q) (okS.th hi).1
                            have hsf := sfar_c (c := Z.1 12 i)
                            rw [← hp] at hin hcl
                            grind [saysK, cif, saysI, inZ, humT, lossT, may_1]
                          exact hQ _ _ ⟨by rw [hz], by rw [hz]; exact cv⟩
                        · refine j_iload_n 5 dX11_says_117 rfl ?_
                          refine j_iload 1 dX11_says_118 rfl ?_
                          refine j_icmp_eq (tgt := 135) dX11_says_120 rfl (fun c324 => ?_) (fun c324 => ?_)
                          · refine j_iload_n 5 dX11_says_135 rfl ?_
                            by_cases c326 : q = 0
                            · refine j_tableIn (tgt := 180) dX11_says_136 (by rw [c326]; decide) (by rw [c326]; decide) (off := 44) (by rw [c326]; decide) rfl ?_
                              refine j_aload_n 3 dX11_says_180 rfl ?_
                              refine j_getr (q := 4) dX11_says_181 fX11_35 (shM hM sgM_0) rfl (rfM hM rfM_0_12) ?_
                              refine j_iload_n 2 dX11_says_184 rfl ?_
                              refine j_ialdN i dX11_says_185 (shM hM sgM_4) (by omega) (by omega) ?_
                              refine j_topi (Z.1 12 i) (mr_arT hS (k := 2) (by omega) (by decide)) ?_
                              refine j_iret dX11_says_186 rfl ?_
                              have hz : saysK Z q k = ((Z.1 12 i), Z) := by
                                clear hQ
                                clear cv hM hS ok
                                have h01 := (okS.th hi).2.2.2
                                have hcl := nI_clamp (show i < 2 ^ 31 by omega)
                                have hin := i_ok hi (show nT Z.1 < 2 ^ 31 by omega)
                                have hone := one_all (q := q) (okS.th hi).1
                                have hsf := sfar_c (c := Z.1 12 i)
                                rw [← hp] at hin hcl
                                grind [saysK, cif, saysI, inZ, humT, lossT, may_1]
                              exact hQ _ _ ⟨by rw [hz], by rw [hz]; exact cv⟩
                            by_cases c327 : q = 1
                            · refine j_tableIn (tgt := 206) dX11_says_136 (by rw [c327]; decide) (by rw [c327]; decide) (off := 70) (by rw [c327]; decide) rfl ?_
                              refine j_aload_n 3 dX11_says_206 rfl ?_
                              refine j_iload_n 2 dX11_says_207 rfl ?_
                              refine j_callV (kc := 0) (ks := 0) (a := 0) (b := 0) (d' := d) (As := [.int (nI i)]) dX11_says_208 kX11_141 rfl (shM hM sgM_0) (by omega) rfl rfl rfl (Nat.le_of_ble_eq_true rfl) (Nat.le_of_ble_eq_true rfl) (T_X11_loss hM hS okS i (by omega)) (kk_p ?_)
                              refine j_iret dX11_says_211 rfl ?_
                              have hz : saysK Z q k = ((lossT Z.1 i), Z) := by
                                clear hQ
                                clear cv hM hS ok
                                have h01 := (okS.th hi).2.2.2
                                have hcl := nI_clamp (show i < 2 ^ 31 by omega)
                                have hin := i_ok hi (show nT Z.1 < 2 ^ 31 by omega)
                                have hone := one_all (q := q) (okS.th hi).1
                                have hsf := sfar_c (c := Z.1 12 i)
                                rw [← hp] at hin hcl
                                grind [saysK, cif, saysI, inZ, humT, lossT, may_1]
                              exact hQ _ _ ⟨by rw [hz], by rw [hz]; exact cv⟩
                            by_cases c328 : q = 2
                            · refine j_tableIn (tgt := 187) dX11_says_136 (by rw [c328]; decide) (by rw [c328]; decide) (off := 51) (by rw [c328]; decide) rfl ?_
                              refine j_aload_n 3 dX11_says_187 rfl ?_
                              refine j_getr (q := 5) dX11_says_188 fX11_38 (shM hM sgM_0) rfl (rfM hM rfM_0_13) ?_
                              refine j_iload_n 2 dX11_says_191 rfl ?_
                              refine j_ialdN i dX11_says_192 (shM hM sgM_5) (by omega) (by omega) ?_
                              refine j_topi (Z.1 13 i) (mr_arT hS (k := 3) (by omega) (by decide)) ?_
                              refine j_iret dX11_says_193 rfl ?_
                              have hz : saysK Z q k = ((Z.1 13 i), Z) := by
                                clear hQ
                                clear cv hM hS ok
                                have h01 := (okS.th hi).2.2.2
                                have hcl := nI_clamp (show i < 2 ^ 31 by omega)
                                have hin := i_ok hi (show nT Z.1 < 2 ^ 31 by omega)
                                have hone := one_all (q := q) (okS.th hi).1
                                have hsf := sfar_c (c := Z.1 12 i)
                                rw [← hp] at hin hcl
                                grind [saysK, cif, saysI, inZ, humT, lossT, may_1]
                              exact hQ _ _ ⟨by rw [hz], by rw [hz]; exact cv⟩
                            by_cases c329 : q = 3
                            · refine j_tableIn (tgt := 206) dX11_says_136 (by rw [c329]; decide) (by rw [c329]; decide) (off := 70) (by rw [c329]; decide) rfl ?_
                              refine j_aload_n 3 dX11_says_206 rfl ?_
                              refine j_iload_n 2 dX11_says_207 rfl ?_
                              refine j_callV (kc := 0) (ks := 0) (a := 0) (b := 0) (d' := d) (As := [.int (nI i)]) dX11_says_208 kX11_141 rfl (shM hM sgM_0) (by omega) rfl rfl rfl (Nat.le_of_ble_eq_true rfl) (Nat.le_of_ble_eq_true rfl) (T_X11_loss hM hS okS i (by omega)) (kk_p ?_)
                              refine j_iret dX11_says_211 rfl ?_
                              have hz : saysK Z q k = ((lossT Z.1 i), Z) := by
                                clear hQ
                                clear cv hM hS ok
                                have h01 := (okS.th hi).2.2.2
                                have hcl := nI_clamp (show i < 2 ^ 31 by omega)
                                have hin := i_ok hi (show nT Z.1 < 2 ^ 31 by omega)
                                have hone := one_all (q := q) (okS.th hi).1
                                have hsf := sfar_c (c := Z.1 12 i)
                                rw [← hp] at hin hcl
                                grind [saysK, cif, saysI, inZ, humT, lossT, may_1]
                              exact hQ _ _ ⟨by rw [hz], by rw [hz]; exact cv⟩
                            by_cases c330 : q = 4
                            · refine j_tableIn (tgt := 194) dX11_says_136 (by rw [c330]; decide) (by rw [c330]; decide) (off := 58) (by rw [c330]; decide) rfl ?_
                              refine j_aload_n 3 dX11_says_194 rfl ?_
                              refine j_iload_n 2 dX11_says_195 rfl ?_
                              refine j_aload_n 3 dX11_says_196 rfl ?_
                              refine j_getr (q := 4) dX11_says_197 fX11_35 (shM hM sgM_0) rfl (rfM hM rfM_0_12) ?_
                              refine j_iload_n 2 dX11_says_200 rfl ?_
                              refine j_ialdN i dX11_says_201 (shM hM sgM_4) (by omega) (by omega) ?_
                              refine j_topi (Z.1 12 i) (mr_arT hS (k := 2) (by omega) (by decide)) ?_
                              refine j_callV (kc := 0) (ks := 0) (a := 0) (b := 0) (d' := (d + 2)) (As := [.int (nI i), .int (Z.1 12 i)]) dX11_says_202 kX11_137 rfl (shM hM sgM_0) (by omega) rfl rfl rfl (Nat.le_of_ble_eq_true rfl) (Nat.le_of_ble_eq_true rfl) (T_X11_hums hM hS okS i (by omega) (Z.1 12 i) (isC_P okS (okS.th hi).2.2.1)) (kk_p ?_)
                              refine j_iret dX11_says_205 rfl ?_
                              have hz : saysK Z q k = ((humT Z.1 i (Z.1 12 i)), Z) := by
                                clear hQ
                                clear cv hM hS ok
                                have h01 := (okS.th hi).2.2.2
                                have hcl := nI_clamp (show i < 2 ^ 31 by omega)
                                have hin := i_ok hi (show nT Z.1 < 2 ^ 31 by omega)
                                have hone := one_all (q := q) (okS.th hi).1
                                have hsf := sfar_c (c := Z.1 12 i)
                                rw [← hp] at hin hcl
                                grind [saysK, cif, saysI, inZ, humT, lossT, may_1]
                              exact hQ _ _ ⟨by rw [hz], by rw [hz]; exact cv⟩
                            by_cases c331 : q = 5
                            · refine j_tableIn (tgt := 206) dX11_says_136 (by rw [c331]; decide) (by rw [c331]; decide) (off := 70) (by rw [c331]; decide) rfl ?_
                              refine j_aload_n 3 dX11_says_206 rfl ?_
                              refine j_iload_n 2 dX11_says_207 rfl ?_
                              refine j_callV (kc := 0) (ks := 0) (a := 0) (b := 0) (d' := d) (As := [.int (nI i)]) dX11_says_208 kX11_141 rfl (shM hM sgM_0) (by omega) rfl rfl rfl (Nat.le_of_ble_eq_true rfl) (Nat.le_of_ble_eq_true rfl) (T_X11_loss hM hS okS i (by omega)) (kk_p ?_)
                              refine j_iret dX11_says_211 rfl ?_
                              have hz : saysK Z q k = ((lossT Z.1 i), Z) := by
                                clear hQ
                                clear cv hM hS ok
                                have h01 := (okS.th hi).2.2.2
                                have hcl := nI_clamp (show i < 2 ^ 31 by omega)
                                have hin := i_ok hi (show nT Z.1 < 2 ^ 31 by omega)
                                have hone := one_all (q := q) (okS.th hi).1
                                have hsf := sfar_c (c := Z.1 12 i)
                                rw [← hp] at hin hcl
                                grind [saysK, cif, saysI, inZ, humT, lossT, may_1]
                              exact hQ _ _ ⟨by rw [hz], by rw [hz]; exact cv⟩
                            by_cases c332 : q = 6
                            · refine j_tableIn (tgt := 194) dX11_says_136 (by rw [c332]; decide) (by rw [c332]; decide) (off := 58) (by rw [c332]; decide) rfl ?_
                              refine j_aload_n 3 dX11_says_194 rfl ?_
                              refine j_iload_n 2 dX11_says_195 rfl ?_
                              refine j_aload_n 3 dX11_says_196 rfl ?_
                              refine j_getr (q := 4) dX11_says_197 fX11_35 (shM hM sgM_0) rfl (rfM hM rfM_0_12) ?_
                              refine j_iload_n 2 dX11_says_200 rfl ?_
                              refine j_ialdN i dX11_says_201 (shM hM sgM_4) (by omega) (by omega) ?_
                              refine j_topi (Z.1 12 i) (mr_arT hS (k := 2) (by omega) (by decide)) ?_
                              refine j_callV (kc := 0) (ks := 0) (a := 0) (b := 0) (d' := (d + 2)) (As := [.int (nI i), .int (Z.1 12 i)]) dX11_says_202 kX11_137 rfl (shM hM sgM_0) (by omega) rfl rfl rfl (Nat.le_of_ble_eq_true rfl) (Nat.le_of_ble_eq_true rfl) (T_X11_hums hM hS okS i (by omega) (Z.1 12 i) (isC_P okS (okS.th hi).2.2.1)) (kk_p ?_)
                              refine j_iret dX11_says_205 rfl ?_
                              have hz : saysK Z q k = ((humT Z.1 i (Z.1 12 i)), Z) := by
                                clear hQ
                                clear cv hM hS ok
                                have h01 := (okS.th hi).2.2.2
                                have hcl := nI_clamp (show i < 2 ^ 31 by omega)
                                have hin := i_ok hi (show nT Z.1 < 2 ^ 31 by omega)
                                have hone := one_all (q := q) (okS.th hi).1
                                have hsf := sfar_c (c := Z.1 12 i)
                                rw [← hp] at hin hcl
                                grind [saysK, cif, saysI, inZ, humT, lossT, may_1]
                              exact hQ _ _ ⟨by rw [hz], by rw [hz]; exact cv⟩
                            refine j_tableOut (tgt := 206) dX11_says_136 (by have q0 := lv_neT c326 (a := 0) (by decide); have q1 := lv_neT c327 (a := 1) (by decide); have q2 := lv_neT c328 (a := 2) (by decide); have q3 := lv_neT c329 (a := 3) (by decide); have q4 := lv_neT c330 (a := 4) (by decide); have q5 := lv_neT c331 (a := 5) (by decide); have q6 := lv_neT c332 (a := 6) (by decide); omega) rfl ?_
                            refine j_aload_n 3 dX11_says_206 rfl ?_
                            refine j_iload_n 2 dX11_says_207 rfl ?_
                            refine j_callV (kc := 0) (ks := 0) (a := 0) (b := 0) (d' := d) (As := [.int (nI i)]) dX11_says_208 kX11_141 rfl (shM hM sgM_0) (by omega) rfl rfl rfl (Nat.le_of_ble_eq_true rfl) (Nat.le_of_ble_eq_true rfl) (T_X11_loss hM hS okS i (by omega)) (kk_p ?_)
                            refine j_iret dX11_says_211 rfl ?_
                            have hz : saysK Z q k = ((lossT Z.1 i), Z) := by
                              clear hQ
                              clear cv hM hS ok
                              have h01 := (okS.th hi).2.2.2
                              have hcl := nI_clamp (show i < 2 ^ 31 by omega)
                              have hin := i_ok hi (show nT Z.1 < 2 ^ 31 by omega)
                              have hone := one_all (q := q) (okS.th hi).1
                              have hsf := sfar_c (c := Z.1 12 i)
                              rw [← hp] at hin hcl
                              grind [saysK, cif, saysI, inZ, humT, lossT, may_1]
                            exact hQ _ _ ⟨by rw [hz], by rw [hz]; exact cv⟩
                          · refine j_iload 0 dX11_says_123 rfl ?_
                            refine j_if_ne (tgt := 135) dX11_says_125 rfl (fun c333 => ?_) (fun c333 => ?_)
                            · exact absurd c333 (by decide)
                            · refine j_aload_n 3 dX11_says_128 rfl ?_
                              refine j_bipush (-2) dX11_says_129 bp_n2 ?_
                              refine j_callV (kc := 0) (ks := 0) (a := 0) (b := 0) (d' := d) (As := [.int (-2)]) dX11_says_131 kX11_130 rfl (shM hM sgM_0) (by omega) rfl rfl rfl (Nat.le_of_ble_eq_true rfl) (Nat.le_of_ble_eq_true rfl) (T_X11_no hM (-2) (by decide)) (kk_p ?_)
                              refine j_iret dX11_says_134 rfl ?_
                              have hz : saysK Z q k = ((-2), (refZ Z (-2))) := by
                                clear hQ
                                clear cv hM hS ok
                                have h01 := (okS.th hi).2.2.2
                                have hcl := nI_clamp (show i < 2 ^ 31 by omega)
                                have hin := i_ok hi (show nT Z.1 < 2 ^ 31 by omega)
                                have hone := one_all (q := q) (okS.th hi).1
                                have hsf := sfar_c (c := Z.1 12 i)
                                rw [← hp] at hin hcl
                                grind [saysK, cif, saysI, inZ, humT, lossT, may_1]
                              exact hQ _ _ ⟨by rw [hz], by rw [hz]; exact MV.rf cv (by decide)⟩
                      · refine j_iconst 1 dX11_says_106 ic_1 ?_
                        refine j_goto (tgt := 111) dX11_says_107 rfl ?_
                        refine j_istore (L' := [(5, .int 1), (4, .int (Z.1 10 i)), (3, .int (nI i)), (0, .ref 0), (1, .int (nI k)), (2, .int q)]) dX11_says_111 (by decide) rfl ?_
                        refine j_iload_n 5 dX11_says_113 rfl ?_
                        refine j_if_eq (tgt := 135) dX11_says_114 rfl (fun c334 => ?_) (fun c334 => ?_)
                        · refine j_iload_n 5 dX11_says_135 rfl ?_
                          by_cases c336 : q = 0
                          · refine j_tableIn (tgt := 180) dX11_says_136 (by rw [c336]; decide) (by rw [c336]; decide) (off := 44) (by rw [c336]; decide) rfl ?_
                            refine j_aload_n 3 dX11_says_180 rfl ?_
                            refine j_getr (q := 4) dX11_says_181 fX11_35 (shM hM sgM_0) rfl (rfM hM rfM_0_12) ?_
                            refine j_iload_n 2 dX11_says_184 rfl ?_
                            refine j_ialdN i dX11_says_185 (shM hM sgM_4) (by omega) (by omega) ?_
                            refine j_topi (Z.1 12 i) (mr_arT hS (k := 2) (by omega) (by decide)) ?_
                            refine j_iret dX11_says_186 rfl ?_
                            have hz : saysK Z q k = ((Z.1 12 i), Z) := by
                              clear hQ
                              clear cv hM hS ok
                              have h01 := (okS.th hi).2.2.2
                              have hcl := nI_clamp (show i < 2 ^ 31 by omega)
                              have hin := i_ok hi (show nT Z.1 < 2 ^ 31 by omega)
                              have hone := one_all (q := q) (okS.th hi).1
                              have hsf := sfar_c (c := Z.1 12 i)
                              rw [← hp] at hin hcl
                              grind [saysK, cif, saysI, inZ, humT, lossT, may_1]
                            exact hQ _ _ ⟨by rw [hz], by rw [hz]; exact cv⟩
                          by_cases c337 : q = 1
                          · refine j_tableIn (tgt := 206) dX11_says_136 (by rw [c337]; decide) (by rw [c337]; decide) (off := 70) (by rw [c337]; decide) rfl ?_
                            refine j_aload_n 3 dX11_says_206 rfl ?_
                            refine j_iload_n 2 dX11_says_207 rfl ?_
                            refine j_callV (kc := 0) (ks := 0) (a := 0) (b := 0) (d' := d) (As := [.int (nI i)]) dX11_says_208 kX11_141 rfl (shM hM sgM_0) (by omega) rfl rfl rfl (Nat.le_of_ble_eq_true rfl) (Nat.le_of_ble_eq_true rfl) (T_X11_loss hM hS okS i (by omega)) (kk_p ?_)
                            refine j_iret dX11_says_211 rfl ?_
                            have hz : saysK Z q k = ((lossT Z.1 i), Z) := by
                              clear hQ
                              clear cv hM hS ok
                              have h01 := (okS.th hi).2.2.2
                              have hcl := nI_clamp (show i < 2 ^ 31 by omega)
                              have hin := i_ok hi (show nT Z.1 < 2 ^ 31 by omega)
                              have hone := one_all (q := q) (okS.th hi).1
                              have hsf := sfar_c (c := Z.1 12 i)
                              rw [← hp] at hin hcl
                              grind [saysK, cif, saysI, inZ, humT, lossT, may_1]
                            exact hQ _ _ ⟨by rw [hz], by rw [hz]; exact cv⟩
                          by_cases c338 : q = 2
                          · refine j_tableIn (tgt := 187) dX11_says_136 (by rw [c338]; decide) (by rw [c338]; decide) (off := 51) (by rw [c338]; decide) rfl ?_
                            refine j_aload_n 3 dX11_says_187 rfl ?_
                            refine j_getr (q := 5) dX11_says_188 fX11_38 (shM hM sgM_0) rfl (rfM hM rfM_0_13) ?_
                            refine j_iload_n 2 dX11_says_191 rfl ?_
                            refine j_ialdN i dX11_says_192 (shM hM sgM_5) (by omega) (by omega) ?_
                            refine j_topi (Z.1 13 i) (mr_arT hS (k := 3) (by omega) (by decide)) ?_
                            refine j_iret dX11_says_193 rfl ?_
                            have hz : saysK Z q k = ((Z.1 13 i), Z) := by
                              clear hQ
                              clear cv hM hS ok
                              have h01 := (okS.th hi).2.2.2
                              have hcl := nI_clamp (show i < 2 ^ 31 by omega)
                              have hin := i_ok hi (show nT Z.1 < 2 ^ 31 by omega)
                              have hone := one_all (q := q) (okS.th hi).1
                              have hsf := sfar_c (c := Z.1 12 i)
                              rw [← hp] at hin hcl
                              grind [saysK, cif, saysI, inZ, humT, lossT, may_1]
                            exact hQ _ _ ⟨by rw [hz], by rw [hz]; exact cv⟩
                          by_cases c339 : q = 3
                          · refine j_tableIn (tgt := 206) dX11_says_136 (by rw [c339]; decide) (by rw [c339]; decide) (off := 70) (by rw [c339]; decide) rfl ?_
                            refine j_aload_n 3 dX11_says_206 rfl ?_
                            refine j_iload_n 2 dX11_says_207 rfl ?_
                            refine j_callV (kc := 0) (ks := 0) (a := 0) (b := 0) (d' := d) (As := [.int (nI i)]) dX11_says_208 kX11_141 rfl (shM hM sgM_0) (by omega) rfl rfl rfl (Nat.le_of_ble_eq_true rfl) (Nat.le_of_ble_eq_true rfl) (T_X11_loss hM hS okS i (by omega)) (kk_p ?_)
                            refine j_iret dX11_says_211 rfl ?_
                            have hz : saysK Z q k = ((lossT Z.1 i), Z) := by
                              clear hQ
                              clear cv hM hS ok
                              have h01 := (okS.th hi).2.2.2
                              have hcl := nI_clamp (show i < 2 ^ 31 by omega)
                              have hin := i_ok hi (show nT Z.1 < 2 ^ 31 by omega)
                              have hone := one_all (q := q) (okS.th hi).1
                              have hsf := sfar_c (c := Z.1 12 i)
                              rw [← hp] at hin hcl
                              grind [saysK, cif, saysI, inZ, humT, lossT, may_1]
                            exact hQ _ _ ⟨by rw [hz], by rw [hz]; exact cv⟩
                          by_cases c340 : q = 4
                          · refine j_tableIn (tgt := 194) dX11_says_136 (by rw [c340]; decide) (by rw [c340]; decide) (off := 58) (by rw [c340]; decide) rfl ?_
                            refine j_aload_n 3 dX11_says_194 rfl ?_
                            refine j_iload_n 2 dX11_says_195 rfl ?_
                            refine j_aload_n 3 dX11_says_196 rfl ?_
                            refine j_getr (q := 4) dX11_says_197 fX11_35 (shM hM sgM_0) rfl (rfM hM rfM_0_12) ?_
                            refine j_iload_n 2 dX11_says_200 rfl ?_
                            refine j_ialdN i dX11_says_201 (shM hM sgM_4) (by omega) (by omega) ?_
                            refine j_topi (Z.1 12 i) (mr_arT hS (k := 2) (by omega) (by decide)) ?_
                            refine j_callV (kc := 0) (ks := 0) (a := 0) (b := 0) (d' := (d + 2)) (As := [.int (nI i), .int (Z.1 12 i)]) dX11_says_202 kX11_137 rfl (shM hM sgM_0) (by omega) rfl rfl rfl (Nat.le_of_ble_eq_true rfl) (Nat.le_of_ble_eq_true rfl) (T_X11_hums hM hS okS i (by omega) (Z.1 12 i) (isC_P okS (okS.th hi).2.2.1)) (kk_p ?_)
                            refine j_iret dX11_says_205 rfl ?_
                            have hz : saysK Z q k = ((humT Z.1 i (Z.1 12 i)), Z) := by
                              clear hQ
                              clear cv hM hS ok
                              have h01 := (okS.th hi).2.2.2
                              have hcl := nI_clamp (show i < 2 ^ 31 by omega)
                              have hin := i_ok hi (show nT Z.1 < 2 ^ 31 by omega)
                              have hone := one_all (q := q) (okS.th hi).1
                              have hsf := sfar_c (c := Z.1 12 i)
                              rw [← hp] at hin hcl
                              grind [saysK, cif, saysI, inZ, humT, lossT, may_1]
                            exact hQ _ _ ⟨by rw [hz], by rw [hz]; exact cv⟩
                          by_cases c341 : q = 5
                          · refine j_tableIn (tgt := 206) dX11_says_136 (by rw [c341]; decide) (by rw [c341]; decide) (off := 70) (by rw [c341]; decide) rfl ?_
                            refine j_aload_n 3 dX11_says_206 rfl ?_
                            refine j_iload_n 2 dX11_says_207 rfl ?_
                            refine j_callV (kc := 0) (ks := 0) (a := 0) (b := 0) (d' := d) (As := [.int (nI i)]) dX11_says_208 kX11_141 rfl (shM hM sgM_0) (by omega) rfl rfl rfl (Nat.le_of_ble_eq_true rfl) (Nat.le_of_ble_eq_true rfl) (T_X11_loss hM hS okS i (by omega)) (kk_p ?_)
                            refine j_iret dX11_says_211 rfl ?_
                            have hz : saysK Z q k = ((lossT Z.1 i), Z) := by
                              clear hQ
                              clear cv hM hS ok
                              have h01 := (okS.th hi).2.2.2
                              have hcl := nI_clamp (show i < 2 ^ 31 by omega)
                              have hin := i_ok hi (show nT Z.1 < 2 ^ 31 by omega)
                              have hone := one_all (q := q) (okS.th hi).1
                              have hsf := sfar_c (c := Z.1 12 i)
                              rw [← hp] at hin hcl
                              grind [saysK, cif, saysI, inZ, humT, lossT, may_1]
                            exact hQ _ _ ⟨by rw [hz], by rw [hz]; exact cv⟩
                          by_cases c342 : q = 6
                          · refine j_tableIn (tgt := 194) dX11_says_136 (by rw [c342]; decide) (by rw [c342]; decide) (off := 58) (by rw [c342]; decide) rfl ?_
                            refine j_aload_n 3 dX11_says_194 rfl ?_
                            refine j_iload_n 2 dX11_says_195 rfl ?_
                            refine j_aload_n 3 dX11_says_196 rfl ?_
                            refine j_getr (q := 4) dX11_says_197 fX11_35 (shM hM sgM_0) rfl (rfM hM rfM_0_12) ?_
                            refine j_iload_n 2 dX11_says_200 rfl ?_
                            refine j_ialdN i dX11_says_201 (shM hM sgM_4) (by omega) (by omega) ?_
                            refine j_topi (Z.1 12 i) (mr_arT hS (k := 2) (by omega) (by decide)) ?_
                            refine j_callV (kc := 0) (ks := 0) (a := 0) (b := 0) (d' := (d + 2)) (As := [.int (nI i), .int (Z.1 12 i)]) dX11_says_202 kX11_137 rfl (shM hM sgM_0) (by omega) rfl rfl rfl (Nat.le_of_ble_eq_true rfl) (Nat.le_of_ble_eq_true rfl) (T_X11_hums hM hS okS i (by omega) (Z.1 12 i) (isC_P okS (okS.th hi).2.2.1)) (kk_p ?_)
                            refine j_iret dX11_says_205 rfl ?_
                            have hz : saysK Z q k = ((humT Z.1 i (Z.1 12 i)), Z) := by
                              clear hQ
                              clear cv hM hS ok
                              have h01 := (okS.th hi).2.2.2
                              have hcl := nI_clamp (show i < 2 ^ 31 by omega)
                              have hin := i_ok hi (show nT Z.1 < 2 ^ 31 by omega)
                              have hone := one_all (q := q) (okS.th hi).1
                              have hsf := sfar_c (c := Z.1 12 i)
                              rw [← hp] at hin hcl
                              grind [saysK, cif, saysI, inZ, humT, lossT, may_1]
                            exact hQ _ _ ⟨by rw [hz], by rw [hz]; exact cv⟩
                          refine j_tableOut (tgt := 206) dX11_says_136 (by have q0 := lv_neT c336 (a := 0) (by decide); have q1 := lv_neT c337 (a := 1) (by decide); have q2 := lv_neT c338 (a := 2) (by decide); have q3 := lv_neT c339 (a := 3) (by decide); have q4 := lv_neT c340 (a := 4) (by decide); have q5 := lv_neT c341 (a := 5) (by decide); have q6 := lv_neT c342 (a := 6) (by decide); omega) rfl ?_
                          refine j_aload_n 3 dX11_says_206 rfl ?_
                          refine j_iload_n 2 dX11_says_207 rfl ?_
                          refine j_callV (kc := 0) (ks := 0) (a := 0) (b := 0) (d' := d) (As := [.int (nI i)]) dX11_says_208 kX11_141 rfl (shM hM sgM_0) (by omega) rfl rfl rfl (Nat.le_of_ble_eq_true rfl) (Nat.le_of_ble_eq_true rfl) (T_X11_loss hM hS okS i (by omega)) (kk_p ?_)
                          refine j_iret dX11_says_211 rfl ?_
                          have hz : saysK Z q k = ((lossT Z.1 i), Z) := by
                            clear hQ
                            clear cv hM hS ok
                            have h01 := (okS.th hi).2.2.2
                            have hcl := nI_clamp (show i < 2 ^ 31 by omega)
                            have hin := i_ok hi (show nT Z.1 < 2 ^ 31 by omega)
                            have hone := one_all (q := q) (okS.th hi).1
                            have hsf := sfar_c (c := Z.1 12 i)
                            rw [← hp] at hin hcl
                            grind [saysK, cif, saysI, inZ, humT, lossT, may_1]
                          exact hQ _ _ ⟨by rw [hz], by rw [hz]; exact cv⟩
                        · refine j_iload_n 5 dX11_says_117 rfl ?_
                          refine j_iload 1 dX11_says_118 rfl ?_
                          refine j_icmp_eq (tgt := 135) dX11_says_120 rfl (fun c343 => ?_) (fun c343 => ?_)
                          · refine j_iload_n 5 dX11_says_135 rfl ?_
                            by_cases c345 : q = 0
                            · refine j_tableIn (tgt := 180) dX11_says_136 (by rw [c345]; decide) (by rw [c345]; decide) (off := 44) (by rw [c345]; decide) rfl ?_
                              refine j_aload_n 3 dX11_says_180 rfl ?_
                              refine j_getr (q := 4) dX11_says_181 fX11_35 (shM hM sgM_0) rfl (rfM hM rfM_0_12) ?_
                              refine j_iload_n 2 dX11_says_184 rfl ?_
                              refine j_ialdN i dX11_says_185 (shM hM sgM_4) (by omega) (by omega) ?_
                              refine j_topi (Z.1 12 i) (mr_arT hS (k := 2) (by omega) (by decide)) ?_
                              refine j_iret dX11_says_186 rfl ?_
                              have hz : saysK Z q k = ((Z.1 12 i), Z) := by
                                clear hQ
                                clear cv hM hS ok
                                have h01 := (okS.th hi).2.2.2
                                have hcl := nI_clamp (show i < 2 ^ 31 by omega)
                                have hin := i_ok hi (show nT Z.1 < 2 ^ 31 by omega)
                                have hone := one_all (q := q) (okS.th hi).1
                                have hsf := sfar_c (c := Z.1 12 i)
                                rw [← hp] at hin hcl
                                grind [saysK, cif, saysI, inZ, humT, lossT, may_1]
                              exact hQ _ _ ⟨by rw [hz], by rw [hz]; exact cv⟩
                            by_cases c346 : q = 1
                            · refine j_tableIn (tgt := 206) dX11_says_136 (by rw [c346]; decide) (by rw [c346]; decide) (off := 70) (by rw [c346]; decide) rfl ?_
                              refine j_aload_n 3 dX11_says_206 rfl ?_
                              refine j_iload_n 2 dX11_says_207 rfl ?_
                              refine j_callV (kc := 0) (ks := 0) (a := 0) (b := 0) (d' := d) (As := [.int (nI i)]) dX11_says_208 kX11_141 rfl (shM hM sgM_0) (by omega) rfl rfl rfl (Nat.le_of_ble_eq_true rfl) (Nat.le_of_ble_eq_true rfl) (T_X11_loss hM hS okS i (by omega)) (kk_p ?_)
                              refine j_iret dX11_says_211 rfl ?_
                              have hz : saysK Z q k = ((lossT Z.1 i), Z) := by
                                clear hQ
                                clear cv hM hS ok
                                have h01 := (okS.th hi).2.2.2
                                have hcl := nI_clamp (show i < 2 ^ 31 by omega)
                                have hin := i_ok hi (show nT Z.1 < 2 ^ 31 by omega)
                                have hone := one_all (q := q) (okS.th hi).1
                                have hsf := sfar_c (c := Z.1 12 i)
                                rw [← hp] at hin hcl
                                grind [saysK, cif, saysI, inZ, humT, lossT, may_1]
                              exact hQ _ _ ⟨by rw [hz], by rw [hz]; exact cv⟩
                            by_cases c347 : q = 2
                            · refine j_tableIn (tgt := 187) dX11_says_136 (by rw [c347]; decide) (by rw [c347]; decide) (off := 51) (by rw [c347]; decide) rfl ?_
                              refine j_aload_n 3 dX11_says_187 rfl ?_
                              refine j_getr (q := 5) dX11_says_188 fX11_38 (shM hM sgM_0) rfl (rfM hM rfM_0_13) ?_
                              refine j_iload_n 2 dX11_says_191 rfl ?_
                              refine j_ialdN i dX11_says_192 (shM hM sgM_5) (by omega) (by omega) ?_
                              refine j_topi (Z.1 13 i) (mr_arT hS (k := 3) (by omega) (by decide)) ?_
                              refine j_iret dX11_says_193 rfl ?_
                              have hz : saysK Z q k = ((Z.1 13 i), Z) := by
                                clear hQ
                                clear cv hM hS ok
                                have h01 := (okS.th hi).2.2.2
                                have hcl := nI_clamp (show i < 2 ^ 31 by omega)
                                have hin := i_ok hi (show nT Z.1 < 2 ^ 31 by omega)
                                have hone := one_all (q := q) (okS.th hi).1
                                have hsf := sfar_c (c := Z.1 12 i)
                                rw [← hp] at hin hcl
                                grind [saysK, cif, saysI, inZ, humT, lossT, may_1]
                              exact hQ _ _ ⟨by rw [hz], by rw [hz]; exact cv⟩
                            by_cases c348 : q = 3
                            · refine j_tableIn (tgt := 206) dX11_says_136 (by rw [c348]; decide) (by rw [c348]; decide) (off := 70) (by rw [c348]; decide) rfl ?_
                              refine j_aload_n 3 dX11_says_206 rfl ?_
                              refine j_iload_n 2 dX11_says_207 rfl ?_
                              refine j_callV (kc := 0) (ks := 0) (a := 0) (b := 0) (d' := d) (As := [.int (nI i)]) dX11_says_208 kX11_141 rfl (shM hM sgM_0) (by omega) rfl rfl rfl (Nat.le_of_ble_eq_true rfl) (Nat.le_of_ble_eq_true rfl) (T_X11_loss hM hS okS i (by omega)) (kk_p ?_)
                              refine j_iret dX11_says_211 rfl ?_
                              have hz : saysK Z q k = ((lossT Z.1 i), Z) := by
                                clear hQ
                                clear cv hM hS ok
                                have h01 := (okS.th hi).2.2.2
                                have hcl := nI_clamp (show i < 2 ^ 31 by omega)
                                have hin := i_ok hi (show nT Z.1 < 2 ^ 31 by omega)
                                have hone := one_all (q := q) (okS.th hi).1
                                have hsf := sfar_c (c := Z.1 12 i)
                                rw [← hp] at hin hcl
                                grind [saysK, cif, saysI, inZ, humT, lossT, may_1]
                              exact hQ _ _ ⟨by rw [hz], by rw [hz]; exact cv⟩
                            by_cases c349 : q = 4
                            · refine j_tableIn (tgt := 194) dX11_says_136 (by rw [c349]; decide) (by rw [c349]; decide) (off := 58) (by rw [c349]; decide) rfl ?_
                              refine j_aload_n 3 dX11_says_194 rfl ?_
                              refine j_iload_n 2 dX11_says_195 rfl ?_
                              refine j_aload_n 3 dX11_says_196 rfl ?_
                              refine j_getr (q := 4) dX11_says_197 fX11_35 (shM hM sgM_0) rfl (rfM hM rfM_0_12) ?_
                              refine j_iload_n 2 dX11_says_200 rfl ?_
                              refine j_ialdN i dX11_says_201 (shM hM sgM_4) (by omega) (by omega) ?_
                              refine j_topi (Z.1 12 i) (mr_arT hS (k := 2) (by omega) (by decide)) ?_
                              refine j_callV (kc := 0) (ks := 0) (a := 0) (b := 0) (d' := (d + 2)) (As := [.int (nI i), .int (Z.1 12 i)]) dX11_says_202 kX11_137 rfl (shM hM sgM_0) (by omega) rfl rfl rfl (Nat.le_of_ble_eq_true rfl) (Nat.le_of_ble_eq_true rfl) (T_X11_hums hM hS okS i (by omega) (Z.1 12 i) (isC_P okS (okS.th hi).2.2.1)) (kk_p ?_)
                              refine j_iret dX11_says_205 rfl ?_
                              have hz : saysK Z q k = ((humT Z.1 i (Z.1 12 i)), Z) := by
                                clear hQ
                                clear cv hM hS ok
                                have h01 := (okS.th hi).2.2.2
                                have hcl := nI_clamp (show i < 2 ^ 31 by omega)
                                have hin := i_ok hi (show nT Z.1 < 2 ^ 31 by omega)
                                have hone := one_all (q := q) (okS.th hi).1
                                have hsf := sfar_c (c := Z.1 12 i)
                                rw [← hp] at hin hcl
                                grind [saysK, cif, saysI, inZ, humT, lossT, may_1]
                              exact hQ _ _ ⟨by rw [hz], by rw [hz]; exact cv⟩
                            by_cases c350 : q = 5
                            · refine j_tableIn (tgt := 206) dX11_says_136 (by rw [c350]; decide) (by rw [c350]; decide) (off := 70) (by rw [c350]; decide) rfl ?_
                              refine j_aload_n 3 dX11_says_206 rfl ?_
                              refine j_iload_n 2 dX11_says_207 rfl ?_
                              refine j_callV (kc := 0) (ks := 0) (a := 0) (b := 0) (d' := d) (As := [.int (nI i)]) dX11_says_208 kX11_141 rfl (shM hM sgM_0) (by omega) rfl rfl rfl (Nat.le_of_ble_eq_true rfl) (Nat.le_of_ble_eq_true rfl) (T_X11_loss hM hS okS i (by omega)) (kk_p ?_)
                              refine j_iret dX11_says_211 rfl ?_
                              have hz : saysK Z q k = ((lossT Z.1 i), Z) := by
                                clear hQ
                                clear cv hM hS ok
                                have h01 := (okS.th hi).2.2.2
                                have hcl := nI_clamp (show i < 2 ^ 31 by omega)
                                have hin := i_ok hi (show nT Z.1 < 2 ^ 31 by omega)
                                have hone := one_all (q := q) (okS.th hi).1
                                have hsf := sfar_c (c := Z.1 12 i)
                                rw [← hp] at hin hcl
                                grind [saysK, cif, saysI, inZ, humT, lossT, may_1]
                              exact hQ _ _ ⟨by rw [hz], by rw [hz]; exact cv⟩
                            by_cases c351 : q = 6
                            · refine j_tableIn (tgt := 194) dX11_says_136 (by rw [c351]; decide) (by rw [c351]; decide) (off := 58) (by rw [c351]; decide) rfl ?_
                              refine j_aload_n 3 dX11_says_194 rfl ?_
                              refine j_iload_n 2 dX11_says_195 rfl ?_
                              refine j_aload_n 3 dX11_says_196 rfl ?_
                              refine j_getr (q := 4) dX11_says_197 fX11_35 (shM hM sgM_0) rfl (rfM hM rfM_0_12) ?_
                              refine j_iload_n 2 dX11_says_200 rfl ?_
                              refine j_ialdN i dX11_says_201 (shM hM sgM_4) (by omega) (by omega) ?_
                              refine j_topi (Z.1 12 i) (mr_arT hS (k := 2) (by omega) (by decide)) ?_
                              refine j_callV (kc := 0) (ks := 0) (a := 0) (b := 0) (d' := (d + 2)) (As := [.int (nI i), .int (Z.1 12 i)]) dX11_says_202 kX11_137 rfl (shM hM sgM_0) (by omega) rfl rfl rfl (Nat.le_of_ble_eq_true rfl) (Nat.le_of_ble_eq_true rfl) (T_X11_hums hM hS okS i (by omega) (Z.1 12 i) (isC_P okS (okS.th hi).2.2.1)) (kk_p ?_)
                              refine j_iret dX11_says_205 rfl ?_
                              have hz : saysK Z q k = ((humT Z.1 i (Z.1 12 i)), Z) := by
                                clear hQ
                                clear cv hM hS ok
                                have h01 := (okS.th hi).2.2.2
                                have hcl := nI_clamp (show i < 2 ^ 31 by omega)
                                have hin := i_ok hi (show nT Z.1 < 2 ^ 31 by omega)
                                have hone := one_all (q := q) (okS.th hi).1
                                have hsf := sfar_c (c := Z.1 12 i)
                                rw [← hp] at hin hcl
                                grind [saysK, cif, saysI, inZ, humT, lossT, may_1]
                              exact hQ _ _ ⟨by rw [hz], by rw [hz]; exact cv⟩
                            refine j_tableOut (tgt := 206) dX11_says_136 (by have q0 := lv_neT c345 (a := 0) (by decide); have q1 := lv_neT c346 (a := 1) (by decide); have q2 := lv_neT c347 (a := 2) (by decide); have q3 := lv_neT c348 (a := 3) (by decide); have q4 := lv_neT c349 (a := 4) (by decide); have q5 := lv_neT c350 (a := 5) (by decide); have q6 := lv_neT c351 (a := 6) (by decide); omega) rfl ?_
                            refine j_aload_n 3 dX11_says_206 rfl ?_
                            refine j_iload_n 2 dX11_says_207 rfl ?_
                            refine j_callV (kc := 0) (ks := 0) (a := 0) (b := 0) (d' := d) (As := [.int (nI i)]) dX11_says_208 kX11_141 rfl (shM hM sgM_0) (by omega) rfl rfl rfl (Nat.le_of_ble_eq_true rfl) (Nat.le_of_ble_eq_true rfl) (T_X11_loss hM hS okS i (by omega)) (kk_p ?_)
                            refine j_iret dX11_says_211 rfl ?_
                            have hz : saysK Z q k = ((lossT Z.1 i), Z) := by
                              clear hQ
                              clear cv hM hS ok
                              have h01 := (okS.th hi).2.2.2
                              have hcl := nI_clamp (show i < 2 ^ 31 by omega)
                              have hin := i_ok hi (show nT Z.1 < 2 ^ 31 by omega)
                              have hone := one_all (q := q) (okS.th hi).1
                              have hsf := sfar_c (c := Z.1 12 i)
                              rw [← hp] at hin hcl
                              grind [saysK, cif, saysI, inZ, humT, lossT, may_1]
                            exact hQ _ _ ⟨by rw [hz], by rw [hz]; exact cv⟩
                          · refine j_iload 0 dX11_says_123 rfl ?_
                            refine j_if_ne (tgt := 135) dX11_says_125 rfl (fun c352 => ?_) (fun c352 => ?_)
                            · refine j_iload_n 5 dX11_says_135 rfl ?_
                              by_cases c354 : q = 0
                              · refine j_tableIn (tgt := 180) dX11_says_136 (by rw [c354]; decide) (by rw [c354]; decide) (off := 44) (by rw [c354]; decide) rfl ?_
                                refine j_aload_n 3 dX11_says_180 rfl ?_
                                refine j_getr (q := 4) dX11_says_181 fX11_35 (shM hM sgM_0) rfl (rfM hM rfM_0_12) ?_
                                refine j_iload_n 2 dX11_says_184 rfl ?_
                                refine j_ialdN i dX11_says_185 (shM hM sgM_4) (by omega) (by omega) ?_
                                refine j_topi (Z.1 12 i) (mr_arT hS (k := 2) (by omega) (by decide)) ?_
                                refine j_iret dX11_says_186 rfl ?_
                                have hz : saysK Z q k = ((Z.1 12 i), Z) := by
                                  clear hQ
                                  clear cv hM hS ok
                                  have h01 := (okS.th hi).2.2.2
                                  have hcl := nI_clamp (show i < 2 ^ 31 by omega)
                                  have hin := i_ok hi (show nT Z.1 < 2 ^ 31 by omega)
                                  have hone := one_all (q := q) (okS.th hi).1
                                  have hsf := sfar_c (c := Z.1 12 i)
                                  rw [← hp] at hin hcl
                                  grind [saysK, cif, saysI, inZ, humT, lossT, may_1]
                                exact hQ _ _ ⟨by rw [hz], by rw [hz]; exact cv⟩
                              by_cases c355 : q = 1
                              · refine j_tableIn (tgt := 206) dX11_says_136 (by rw [c355]; decide) (by rw [c355]; decide) (off := 70) (by rw [c355]; decide) rfl ?_
                                refine j_aload_n 3 dX11_says_206 rfl ?_
                                refine j_iload_n 2 dX11_says_207 rfl ?_
                                refine j_callV (kc := 0) (ks := 0) (a := 0) (b := 0) (d' := d) (As := [.int (nI i)]) dX11_says_208 kX11_141 rfl (shM hM sgM_0) (by omega) rfl rfl rfl (Nat.le_of_ble_eq_true rfl) (Nat.le_of_ble_eq_true rfl) (T_X11_loss hM hS okS i (by omega)) (kk_p ?_)
                                refine j_iret dX11_says_211 rfl ?_
                                have hz : saysK Z q k = ((lossT Z.1 i), Z) := by
                                  clear hQ
                                  clear cv hM hS ok
                                  have h01 := (okS.th hi).2.2.2
                                  have hcl := nI_clamp (show i < 2 ^ 31 by omega)
                                  have hin := i_ok hi (show nT Z.1 < 2 ^ 31 by omega)
                                  have hone := one_all (q := q) (okS.th hi).1
                                  have hsf := sfar_c (c := Z.1 12 i)
                                  rw [← hp] at hin hcl
                                  grind [saysK, cif, saysI, inZ, humT, lossT, may_1]
                                exact hQ _ _ ⟨by rw [hz], by rw [hz]; exact cv⟩
                              by_cases c356 : q = 2
                              · refine j_tableIn (tgt := 187) dX11_says_136 (by rw [c356]; decide) (by rw [c356]; decide) (off := 51) (by rw [c356]; decide) rfl ?_
                                refine j_aload_n 3 dX11_says_187 rfl ?_
                                refine j_getr (q := 5) dX11_says_188 fX11_38 (shM hM sgM_0) rfl (rfM hM rfM_0_13) ?_
                                refine j_iload_n 2 dX11_says_191 rfl ?_
                                refine j_ialdN i dX11_says_192 (shM hM sgM_5) (by omega) (by omega) ?_
                                refine j_topi (Z.1 13 i) (mr_arT hS (k := 3) (by omega) (by decide)) ?_
                                refine j_iret dX11_says_193 rfl ?_
                                have hz : saysK Z q k = ((Z.1 13 i), Z) := by
                                  clear hQ
                                  clear cv hM hS ok
                                  have h01 := (okS.th hi).2.2.2
                                  have hcl := nI_clamp (show i < 2 ^ 31 by omega)
                                  have hin := i_ok hi (show nT Z.1 < 2 ^ 31 by omega)
                                  have hone := one_all (q := q) (okS.th hi).1
                                  have hsf := sfar_c (c := Z.1 12 i)
                                  rw [← hp] at hin hcl
                                  grind [saysK, cif, saysI, inZ, humT, lossT, may_1]
                                exact hQ _ _ ⟨by rw [hz], by rw [hz]; exact cv⟩
                              by_cases c357 : q = 3
                              · refine j_tableIn (tgt := 206) dX11_says_136 (by rw [c357]; decide) (by rw [c357]; decide) (off := 70) (by rw [c357]; decide) rfl ?_
                                refine j_aload_n 3 dX11_says_206 rfl ?_
                                refine j_iload_n 2 dX11_says_207 rfl ?_
                                refine j_callV (kc := 0) (ks := 0) (a := 0) (b := 0) (d' := d) (As := [.int (nI i)]) dX11_says_208 kX11_141 rfl (shM hM sgM_0) (by omega) rfl rfl rfl (Nat.le_of_ble_eq_true rfl) (Nat.le_of_ble_eq_true rfl) (T_X11_loss hM hS okS i (by omega)) (kk_p ?_)
                                refine j_iret dX11_says_211 rfl ?_
                                have hz : saysK Z q k = ((lossT Z.1 i), Z) := by
                                  clear hQ
                                  clear cv hM hS ok
                                  have h01 := (okS.th hi).2.2.2
                                  have hcl := nI_clamp (show i < 2 ^ 31 by omega)
                                  have hin := i_ok hi (show nT Z.1 < 2 ^ 31 by omega)
                                  have hone := one_all (q := q) (okS.th hi).1
                                  have hsf := sfar_c (c := Z.1 12 i)
                                  rw [← hp] at hin hcl
                                  grind [saysK, cif, saysI, inZ, humT, lossT, may_1]
                                exact hQ _ _ ⟨by rw [hz], by rw [hz]; exact cv⟩
                              by_cases c358 : q = 4
                              · refine j_tableIn (tgt := 194) dX11_says_136 (by rw [c358]; decide) (by rw [c358]; decide) (off := 58) (by rw [c358]; decide) rfl ?_
                                refine j_aload_n 3 dX11_says_194 rfl ?_
                                refine j_iload_n 2 dX11_says_195 rfl ?_
                                refine j_aload_n 3 dX11_says_196 rfl ?_
                                refine j_getr (q := 4) dX11_says_197 fX11_35 (shM hM sgM_0) rfl (rfM hM rfM_0_12) ?_
                                refine j_iload_n 2 dX11_says_200 rfl ?_
                                refine j_ialdN i dX11_says_201 (shM hM sgM_4) (by omega) (by omega) ?_
                                refine j_topi (Z.1 12 i) (mr_arT hS (k := 2) (by omega) (by decide)) ?_
                                refine j_callV (kc := 0) (ks := 0) (a := 0) (b := 0) (d' := (d + 2)) (As := [.int (nI i), .int (Z.1 12 i)]) dX11_says_202 kX11_137 rfl (shM hM sgM_0) (by omega) rfl rfl rfl (Nat.le_of_ble_eq_true rfl) (Nat.le_of_ble_eq_true rfl) (T_X11_hums hM hS okS i (by omega) (Z.1 12 i) (isC_P okS (okS.th hi).2.2.1)) (kk_p ?_)
                                refine j_iret dX11_says_205 rfl ?_
                                have hz : saysK Z q k = ((humT Z.1 i (Z.1 12 i)), Z) := by
                                  clear hQ
                                  clear cv hM hS ok
                                  have h01 := (okS.th hi).2.2.2
                                  have hcl := nI_clamp (show i < 2 ^ 31 by omega)
                                  have hin := i_ok hi (show nT Z.1 < 2 ^ 31 by omega)
                                  have hone := one_all (q := q) (okS.th hi).1
                                  have hsf := sfar_c (c := Z.1 12 i)
                                  rw [← hp] at hin hcl
                                  grind [saysK, cif, saysI, inZ, humT, lossT, may_1]
                                exact hQ _ _ ⟨by rw [hz], by rw [hz]; exact cv⟩
                              by_cases c359 : q = 5
                              · refine j_tableIn (tgt := 206) dX11_says_136 (by rw [c359]; decide) (by rw [c359]; decide) (off := 70) (by rw [c359]; decide) rfl ?_
                                refine j_aload_n 3 dX11_says_206 rfl ?_
                                refine j_iload_n 2 dX11_says_207 rfl ?_
                                refine j_callV (kc := 0) (ks := 0) (a := 0) (b := 0) (d' := d) (As := [.int (nI i)]) dX11_says_208 kX11_141 rfl (shM hM sgM_0) (by omega) rfl rfl rfl (Nat.le_of_ble_eq_true rfl) (Nat.le_of_ble_eq_true rfl) (T_X11_loss hM hS okS i (by omega)) (kk_p ?_)
                                refine j_iret dX11_says_211 rfl ?_
                                have hz : saysK Z q k = ((lossT Z.1 i), Z) := by
                                  clear hQ
                                  clear cv hM hS ok
                                  have h01 := (okS.th hi).2.2.2
                                  have hcl := nI_clamp (show i < 2 ^ 31 by omega)
                                  have hin := i_ok hi (show nT Z.1 < 2 ^ 31 by omega)
                                  have hone := one_all (q := q) (okS.th hi).1
                                  have hsf := sfar_c (c := Z.1 12 i)
                                  rw [← hp] at hin hcl
                                  grind [saysK, cif, saysI, inZ, humT, lossT, may_1]
                                exact hQ _ _ ⟨by rw [hz], by rw [hz]; exact cv⟩
                              by_cases c360 : q = 6
                              · refine j_tableIn (tgt := 194) dX11_says_136 (by rw [c360]; decide) (by rw [c360]; decide) (off := 58) (by rw [c360]; decide) rfl ?_
                                refine j_aload_n 3 dX11_says_194 rfl ?_
                                refine j_iload_n 2 dX11_says_195 rfl ?_
                                refine j_aload_n 3 dX11_says_196 rfl ?_
                                refine j_getr (q := 4) dX11_says_197 fX11_35 (shM hM sgM_0) rfl (rfM hM rfM_0_12) ?_
                                refine j_iload_n 2 dX11_says_200 rfl ?_
                                refine j_ialdN i dX11_says_201 (shM hM sgM_4) (by omega) (by omega) ?_
                                refine j_topi (Z.1 12 i) (mr_arT hS (k := 2) (by omega) (by decide)) ?_
                                refine j_callV (kc := 0) (ks := 0) (a := 0) (b := 0) (d' := (d + 2)) (As := [.int (nI i), .int (Z.1 12 i)]) dX11_says_202 kX11_137 rfl (shM hM sgM_0) (by omega) rfl rfl rfl (Nat.le_of_ble_eq_true rfl) (Nat.le_of_ble_eq_true rfl) (T_X11_hums hM hS okS i (by omega) (Z.1 12 i) (isC_P okS (okS.th hi).2.2.1)) (kk_p ?_)
                                refine j_iret dX11_says_205 rfl ?_
                                have hz : saysK Z q k = ((humT Z.1 i (Z.1 12 i)), Z) := by
                                  clear hQ
                                  clear cv hM hS ok
                                  have h01 := (okS.th hi).2.2.2
                                  have hcl := nI_clamp (show i < 2 ^ 31 by omega)
                                  have hin := i_ok hi (show nT Z.1 < 2 ^ 31 by omega)
                                  have hone := one_all (q := q) (okS.th hi).1
                                  have hsf := sfar_c (c := Z.1 12 i)
                                  rw [← hp] at hin hcl
                                  grind [saysK, cif, saysI, inZ, humT, lossT, may_1]
                                exact hQ _ _ ⟨by rw [hz], by rw [hz]; exact cv⟩
                              refine j_tableOut (tgt := 206) dX11_says_136 (by have q0 := lv_neT c354 (a := 0) (by decide); have q1 := lv_neT c355 (a := 1) (by decide); have q2 := lv_neT c356 (a := 2) (by decide); have q3 := lv_neT c357 (a := 3) (by decide); have q4 := lv_neT c358 (a := 4) (by decide); have q5 := lv_neT c359 (a := 5) (by decide); have q6 := lv_neT c360 (a := 6) (by decide); omega) rfl ?_
                              refine j_aload_n 3 dX11_says_206 rfl ?_
                              refine j_iload_n 2 dX11_says_207 rfl ?_
                              refine j_callV (kc := 0) (ks := 0) (a := 0) (b := 0) (d' := d) (As := [.int (nI i)]) dX11_says_208 kX11_141 rfl (shM hM sgM_0) (by omega) rfl rfl rfl (Nat.le_of_ble_eq_true rfl) (Nat.le_of_ble_eq_true rfl) (T_X11_loss hM hS okS i (by omega)) (kk_p ?_)
                              refine j_iret dX11_says_211 rfl ?_
                              have hz : saysK Z q k = ((lossT Z.1 i), Z) := by
                                clear hQ
                                clear cv hM hS ok
                                have h01 := (okS.th hi).2.2.2
                                have hcl := nI_clamp (show i < 2 ^ 31 by omega)
                                have hin := i_ok hi (show nT Z.1 < 2 ^ 31 by omega)
                                have hone := one_all (q := q) (okS.th hi).1
                                have hsf := sfar_c (c := Z.1 12 i)
                                rw [← hp] at hin hcl
                                grind [saysK, cif, saysI, inZ, humT, lossT, may_1]
                              exact hQ _ _ ⟨by rw [hz], by rw [hz]; exact cv⟩
                            · exact absurd c352 (by decide)
          · exact absurd c5 (by decide)
        · exact absurd c4 (by decide)
      · refine j_aload_n 0 dX11_says_18 rfl ?_
        refine j_iconst (-1) dX11_says_19 ic_n1 ?_
        refine j_callV (kc := 0) (ks := 0) (a := 0) (b := 0) (d' := d) (As := [.int (-1)]) dX11_says_20 kX11_130 rfl (shM hM sgM_0) (by omega) rfl rfl rfl (Nat.le_of_ble_eq_true rfl) (Nat.le_of_ble_eq_true rfl) (T_X11_no hM (-1) (by decide)) (kk_p ?_)
        refine j_iret dX11_says_23 rfl ?_
        have hz : saysK Z q k = ((-1), (refZ Z (-1))) := by
          clear hQ
          clear cv hM hS ok
          have h01 := (okS.th hi).2.2.2
          have hcl := nI_clamp (show i < 2 ^ 31 by omega)
          have hin := i_ok hi (show nT Z.1 < 2 ^ 31 by omega)
          have hone := one_all (q := q) (okS.th hi).1
          have hsf := sfar_c (c := Z.1 12 i)
          rw [← hp] at hin hcl
          grind [saysK, cif, saysI, inZ, humT, lossT, may_1]
        exact hQ _ _ ⟨by rw [hz], by rw [hz]; exact MV.rf cv (by decide)⟩
set_option maxRecDepth 20000 in
set_option maxHeartbeats 4000000 in
theorem N_says2 {d : Nat} {M : jk_M} {Z : ZS} (cv : MV M Z) (ok : Zok Z) (k : Nat) (hk : k < 8) (q : Int32) (hx : ¬ Z.2.2.1 k 0 = -1 ∨ Z.2.2.1 k 2 = -1) : J Fr_X11_says (d + 3) 0 0 0 [(0, .ref 0), (1, .int (nI k)), (2, .int q)] [] M (jk_ex (some (.int (saysK Z q k).1)) (fun M1 => MV M1 (saysK Z q k).2)) := by
  refine j_post (fun Q hQ => ?_)
  have hM := cv.1
  have hS := cv.2.1
  have okS := ok.1
  have h40 := cv.2.2.2.2.2.2.2.2.2.2.1
  have hsk := shl_k hk
  have hsmk := shm_g (cv.2.2.2.1 k hk)
  have hzok := ok.sh hk
  have hzzk := shok0 hzok
  refine j_aload_n 0 dX11_says_0 rfl ?_
  refine j_iload_n 1 dX11_says_1 rfl ?_
  refine j_callV (kc := 0) (ks := 0) (a := 0) (b := 0) (d' := d) (As := [.int (nI k)]) dX11_says_2 kX11_126 rfl (shM hM sgM_0) (by omega) rfl rfl rfl (Nat.le_of_ble_eq_true rfl) (Nat.le_of_ble_eq_true rfl) (T_X11_isShelf (nI k)) (kk_p ?_)
  refine j_if_eqB (p := (0 ≤ (nI k) ∧ (nI k) < 8)) (tgt := 18) dX11_says_5 rfl (fun c1 => ?_) (fun c1 => ?_)
  · exact absurd hsk c1
  · refine j_iload_n 2 dX11_says_8 rfl ?_
    refine j_if_lt (tgt := 18) dX11_says_9 rfl (fun c2 => ?_) (fun c2 => ?_)
    · refine j_aload_n 0 dX11_says_18 rfl ?_
      refine j_iconst (-1) dX11_says_19 ic_n1 ?_
      refine j_callV (kc := 0) (ks := 0) (a := 0) (b := 0) (d' := d) (As := [.int (-1)]) dX11_says_20 kX11_130 rfl (shM hM sgM_0) (by omega) rfl rfl rfl (Nat.le_of_ble_eq_true rfl) (Nat.le_of_ble_eq_true rfl) (T_X11_no hM (-1) (by decide)) (kk_p ?_)
      refine j_iret dX11_says_23 rfl ?_
      have hz : saysK Z q k = ((-1), (refZ Z (-1))) := by
        clear hQ
        clear cv hM hS ok
        have hm1 : ¬ (0 : Int32) ≤ -1 := by decide
        grind [saysK, cif, inZ, may_1]
      exact hQ _ _ ⟨by rw [hz], by rw [hz]; exact MV.rf cv (by decide)⟩
    · refine j_iload_n 2 dX11_says_12 rfl ?_
      refine j_bipush 6 dX11_says_13 bp_6 ?_
      refine j_icmp_le (tgt := 24) dX11_says_15 rfl (fun c3 => ?_) (fun c3 => ?_)
      · refine j_aload_n 0 dX11_says_24 rfl ?_
        refine j_getr (q := 13) dX11_says_25 fX11_62 (shM hM sgM_0) rfl (rfM hM rfM_0_21) ?_
        refine j_iload_n 1 dX11_says_28 rfl ?_
        refine j_ialdN k dX11_says_29 (shM hM sgM_13) (by omega) (by omega) ?_
        refine j_iconst 1 dX11_says_30 ic_1 ?_
        refine j_icmp_ne (tgt := 41) dX11_says_31 rfl (fun c4 => ?_) (fun c4 => ?_)
        · refine j_aload_n 0 dX11_says_41 rfl ?_
          refine j_getr (q := 13) dX11_says_42 fX11_62 (shM hM sgM_0) rfl (rfM hM rfM_0_21) ?_
          refine j_iload_n 1 dX11_says_45 rfl ?_
          refine j_ialdN k dX11_says_46 (shM hM sgM_13) (by omega) (by omega) ?_
          refine j_if_ne (tgt := 57) dX11_says_47 rfl (fun c5 => ?_) (fun c5 => ?_)
          · exact absurd hx (by clear hQ cv hM hS ok; grind)
          · refine j_aload_n 0 dX11_says_50 rfl ?_
            refine j_bipush (-3) dX11_says_51 bp_n3 ?_
            refine j_callV (kc := 0) (ks := 0) (a := 0) (b := 0) (d' := d) (As := [.int (-3)]) dX11_says_53 kX11_130 rfl (shM hM sgM_0) (by omega) rfl rfl rfl (Nat.le_of_ble_eq_true rfl) (Nat.le_of_ble_eq_true rfl) (T_X11_no hM (-3) (by decide)) (kk_p ?_)
            refine j_iret dX11_says_56 rfl ?_
            have hz : saysK Z q k = ((-3), (refZ Z (-3))) := by
              clear hQ
              clear cv hM hS ok
              have hm1 : ¬ (0 : Int32) ≤ -1 := by decide
              grind [saysK, cif, inZ, may_1]
            exact hQ _ _ ⟨by rw [hz], by rw [hz]; exact MV.rf cv (by decide)⟩
        · refine j_aload_n 0 dX11_says_34 rfl ?_
          refine j_bipush (-2) dX11_says_35 bp_n2 ?_
          refine j_callV (kc := 0) (ks := 0) (a := 0) (b := 0) (d' := d) (As := [.int (-2)]) dX11_says_37 kX11_130 rfl (shM hM sgM_0) (by omega) rfl rfl rfl (Nat.le_of_ble_eq_true rfl) (Nat.le_of_ble_eq_true rfl) (T_X11_no hM (-2) (by decide)) (kk_p ?_)
          refine j_iret dX11_says_40 rfl ?_
          have hz : saysK Z q k = ((-2), (refZ Z (-2))) := by
            clear hQ
            clear cv hM hS ok
            have hm1 : ¬ (0 : Int32) ≤ -1 := by decide
            grind [saysK, cif, inZ, may_1]
          exact hQ _ _ ⟨by rw [hz], by rw [hz]; exact MV.rf cv (by decide)⟩
      · refine j_aload_n 0 dX11_says_18 rfl ?_
        refine j_iconst (-1) dX11_says_19 ic_n1 ?_
        refine j_callV (kc := 0) (ks := 0) (a := 0) (b := 0) (d' := d) (As := [.int (-1)]) dX11_says_20 kX11_130 rfl (shM hM sgM_0) (by omega) rfl rfl rfl (Nat.le_of_ble_eq_true rfl) (Nat.le_of_ble_eq_true rfl) (T_X11_no hM (-1) (by decide)) (kk_p ?_)
        refine j_iret dX11_says_23 rfl ?_
        have hz : saysK Z q k = ((-1), (refZ Z (-1))) := by
          clear hQ
          clear cv hM hS ok
          have hm1 : ¬ (0 : Int32) ≤ -1 := by decide
          grind [saysK, cif, inZ, may_1]
        exact hQ _ _ ⟨by rw [hz], by rw [hz]; exact MV.rf cv (by decide)⟩
set_option maxRecDepth 20000 in
set_option maxHeartbeats 4000000 in
theorem N_saysN {d : Nat} {M : jk_M} {Z : ZS} (cv : MV M Z) (ok : Zok Z) (s q : Int32) (hs : ¬ (0 ≤ s ∧ s < 8)) : J Fr_X11_says (d + 3) 0 0 0 [(0, .ref 0), (1, .int s), (2, .int q)] [] M (jk_ex (some (.int (((-1 : Int32), refZ Z (-1))).1)) (fun M1 => MV M1 (((-1 : Int32), refZ Z (-1))).2)) := by
  refine j_post (fun Q hQ => ?_)
  have hM := cv.1
  have hS := cv.2.1
  have okS := ok.1
  have h40 := cv.2.2.2.2.2.2.2.2.2.2.1
  refine j_aload_n 0 dX11_says_0 rfl ?_
  refine j_iload_n 1 dX11_says_1 rfl ?_
  refine j_callV (kc := 0) (ks := 0) (a := 0) (b := 0) (d' := d) (As := [.int s]) dX11_says_2 kX11_126 rfl (shM hM sgM_0) (by omega) rfl rfl rfl (Nat.le_of_ble_eq_true rfl) (Nat.le_of_ble_eq_true rfl) (T_X11_isShelf s) (kk_p ?_)
  refine j_if_eqB (p := (0 ≤ s ∧ s < 8)) (tgt := 18) dX11_says_5 rfl (fun c1 => ?_) (fun c1 => ?_)
  · refine j_aload_n 0 dX11_says_18 rfl ?_
    refine j_iconst (-1) dX11_says_19 ic_n1 ?_
    refine j_callV (kc := 0) (ks := 0) (a := 0) (b := 0) (d' := d) (As := [.int (-1)]) dX11_says_20 kX11_130 rfl (shM hM sgM_0) (by omega) rfl rfl rfl (Nat.le_of_ble_eq_true rfl) (Nat.le_of_ble_eq_true rfl) (T_X11_no hM (-1) (by decide)) (kk_p ?_)
    refine j_iret dX11_says_23 rfl ?_
    exact hQ _ _ ⟨rfl, MV.rf cv (by decide)⟩
  · exact absurd c1 hs
theorem N_says {d : Nat} {M : jk_M} {Z : ZS} (cv : MV M Z) (ok : Zok Z) (s q : Int32) : J Fr_X11_says (d + 3) 0 0 0 [(0, .ref 0), (1, .int s), (2, .int q)] [] M (jk_ex (some (.int (saysZ Z s q).1)) (fun M1 => MV M1 (saysZ Z s q).2)) := by
  by_cases h : 0 ≤ s ∧ s < 8
  · obtain ⟨k, hk, rfl⟩ := s_in h
    rw [saysZ, inS_y hk]
    by_cases h2 : ¬ Z.2.2.1 k 0 = -1 ∨ Z.2.2.1 k 2 = -1
    · exact N_says2 cv ok k hk q h2
    · have h3 : Z.2.2.1 k 0 = -1 ∧ ¬ Z.2.2.1 k 2 = -1 := by grind
      rcases ok.2.2.1 k hk with ⟨⟨m, -, hm, e⟩, -⟩ | ⟨-, -, e | ⟨i, hi, e⟩⟩
      · exact absurd (e.symm.trans h3.1) (nI_n1 (by omega))
      · exact absurd e h3.2
      · exact N_says1 cv ok k hk q i hi e h3.1 h3.2
  · rw [saysZ, inS_n h]; exact N_saysN cv ok s q h
set_option maxRecDepth 20000 in
set_option maxHeartbeats 4000000 in
theorem N_copy0 {d : Nat} {M : jk_M} {Z : ZS} (cv : MV M Z) (ok : Zok Z) (p q : Nat) (hp : p < 8) (hq : q < 8) (i j n : Int32) (hno : ¬ (cpK Z p q = 0 ∧ ¬ n < 0 ∧ (0 ≤ i ∧ ¬ Z.2.2.1 p 1 - n < i) ∧ (0 ≤ j ∧ ¬ Z.2.2.1 q 1 - n < j))) : J Fr_X11_copy (d + 1) 0 0 0 [(0, .ref 0), (1, .int (nI p)), (2, .int (nI q)), (3, .int i), (4, .int j), (5, .int n)] [] M (jk_ex (some (.int (copyK Z i j n p q).1)) (fun M1 => MV M1 (copyK Z i j n p q).2)) := by
  refine j_post (fun Q hQ => ?_)
  have hM := cv.1
  have hS := cv.2.1
  have okS := ok.1
  have h40 := cv.2.2.2.2.2.2.2.2.2.2.1
  have hsp := shl_k hp
  have hsmp := shm_g (cv.2.2.2.1 p hp)
  have hzop := ok.sh hp
  have hzzp := shok0 hzop
  have hsq := shl_k hq
  have hsmq := shm_g (cv.2.2.2.1 q hq)
  have hzoq := ok.sh hq
  have hzzq := shok0 hzoq
  have ok9 := ok
  refine j_aload_n 0 dX11_copy_0 rfl ?_
  refine j_iload_n 1 dX11_copy_1 rfl ?_
  refine j_callV (kc := 0) (ks := 0) (a := 0) (b := 0) (d' := d) (As := [.int (nI p)]) dX11_copy_2 kX11_126 rfl (shM hM sgM_0) (by omega) rfl rfl rfl (Nat.le_of_ble_eq_true rfl) (Nat.le_of_ble_eq_true rfl) (T_X11_isShelf (nI p)) (kk_p ?_)
  refine j_if_eqB (p := (0 ≤ (nI p) ∧ (nI p) < 8)) (tgt := 16) dX11_copy_5 rfl (fun c1 => ?_) (fun c1 => ?_)
  · exact absurd hsp c1
  · refine j_aload_n 0 dX11_copy_8 rfl ?_
    refine j_iload_n 2 dX11_copy_9 rfl ?_
    refine j_callV (kc := 0) (ks := 0) (a := 0) (b := 0) (d' := d) (As := [.int (nI q)]) dX11_copy_10 kX11_126 rfl (shM hM sgM_0) (by omega) rfl rfl rfl (Nat.le_of_ble_eq_true rfl) (Nat.le_of_ble_eq_true rfl) (T_X11_isShelf (nI q)) (kk_p ?_)
    refine j_if_neB (p := (0 ≤ (nI q) ∧ (nI q) < 8)) (tgt := 22) dX11_copy_13 rfl (fun c2 => ?_) (fun c2 => ?_)
    · refine j_aload_n 0 dX11_copy_22 rfl ?_
      refine j_getr (q := 13) dX11_copy_23 fX11_62 (shM hM sgM_0) rfl (rfM hM rfM_0_21) ?_
      refine j_iload_n 1 dX11_copy_26 rfl ?_
      refine j_ialdN p dX11_copy_27 (shM hM sgM_13) (by omega) (by omega) ?_
      refine j_iconst 2 dX11_copy_28 ic_2 ?_
      refine j_icmp_eq (tgt := 77) dX11_copy_29 rfl (fun c3 => ?_) (fun c3 => ?_)
      · refine j_aload_n 0 dX11_copy_77 rfl ?_
        refine j_bipush (-2) dX11_copy_78 bp_n2 ?_
        refine j_callV (kc := 0) (ks := 0) (a := 0) (b := 0) (d' := d) (As := [.int (-2)]) dX11_copy_80 kX11_130 rfl (shM hM sgM_0) (by omega) rfl rfl rfl (Nat.le_of_ble_eq_true rfl) (Nat.le_of_ble_eq_true rfl) (T_X11_no hM (-2) (by decide)) (kk_p ?_)
        refine j_iret dX11_copy_83 rfl ?_
        have hz : copyK Z i j n p q = ((-2), (refZ Z (-2))) := by
          clear hQ
          clear cv hM hS ok
          have hrp := fun z => run_e ok9 hp (i := i) (n := n) z
          have hrq := fun z => run_e ok9 hq (i := j) (n := n) z
          grind [copyK, cif, cpK, cpS, rrK, rrS]
        exact hQ _ _ ⟨by rw [hz], by rw [hz]; exact MV.rf cv (by decide)⟩
      · refine j_aload_n 0 dX11_copy_32 rfl ?_
        refine j_getr (q := 13) dX11_copy_33 fX11_62 (shM hM sgM_0) rfl (rfM hM rfM_0_21) ?_
        refine j_iload_n 2 dX11_copy_36 rfl ?_
        refine j_ialdN q dX11_copy_37 (shM hM sgM_13) (by omega) (by omega) ?_
        refine j_iconst 2 dX11_copy_38 ic_2 ?_
        refine j_icmp_eq (tgt := 77) dX11_copy_39 rfl (fun c4 => ?_) (fun c4 => ?_)
        · refine j_aload_n 0 dX11_copy_77 rfl ?_
          refine j_bipush (-2) dX11_copy_78 bp_n2 ?_
          refine j_callV (kc := 0) (ks := 0) (a := 0) (b := 0) (d' := d) (As := [.int (-2)]) dX11_copy_80 kX11_130 rfl (shM hM sgM_0) (by omega) rfl rfl rfl (Nat.le_of_ble_eq_true rfl) (Nat.le_of_ble_eq_true rfl) (T_X11_no hM (-2) (by decide)) (kk_p ?_)
          refine j_iret dX11_copy_83 rfl ?_
          have hz : copyK Z i j n p q = ((-2), (refZ Z (-2))) := by
            clear hQ
            clear cv hM hS ok
            have hrp := fun z => run_e ok9 hp (i := i) (n := n) z
            have hrq := fun z => run_e ok9 hq (i := j) (n := n) z
            grind [copyK, cif, cpK, cpS, rrK, rrS]
          exact hQ _ _ ⟨by rw [hz], by rw [hz]; exact MV.rf cv (by decide)⟩
        · refine j_aload_n 0 dX11_copy_42 rfl ?_
          refine j_getr (q := 13) dX11_copy_43 fX11_62 (shM hM sgM_0) rfl (rfM hM rfM_0_21) ?_
          refine j_iload_n 1 dX11_copy_46 rfl ?_
          refine j_ialdN p dX11_copy_47 (shM hM sgM_13) (by omega) (by omega) ?_
          refine j_iconst 1 dX11_copy_48 ic_1 ?_
          refine j_icmp_ne (tgt := 84) dX11_copy_49 rfl (fun c5 => ?_) (fun c5 => ?_)
          · refine j_aload_n 0 dX11_copy_84 rfl ?_
            refine j_getr (q := 13) dX11_copy_85 fX11_62 (shM hM sgM_0) rfl (rfM hM rfM_0_21) ?_
            refine j_iload_n 1 dX11_copy_88 rfl ?_
            refine j_ialdN p dX11_copy_89 (shM hM sgM_13) (by omega) (by omega) ?_
            refine j_if_eq (tgt := 102) dX11_copy_90 rfl (fun c6 => ?_) (fun c6 => ?_)
            · refine j_aload_n 0 dX11_copy_102 rfl ?_
              refine j_bipush (-3) dX11_copy_103 bp_n3 ?_
              refine j_callV (kc := 0) (ks := 0) (a := 0) (b := 0) (d' := d) (As := [.int (-3)]) dX11_copy_105 kX11_130 rfl (shM hM sgM_0) (by omega) rfl rfl rfl (Nat.le_of_ble_eq_true rfl) (Nat.le_of_ble_eq_true rfl) (T_X11_no hM (-3) (by decide)) (kk_p ?_)
              refine j_iret dX11_copy_108 rfl ?_
              have hz : copyK Z i j n p q = ((-3), (refZ Z (-3))) := by
                clear hQ
                clear cv hM hS ok
                have hrp := fun z => run_e ok9 hp (i := i) (n := n) z
                have hrq := fun z => run_e ok9 hq (i := j) (n := n) z
                grind [copyK, cif, cpK, cpS, rrK, rrS]
              exact hQ _ _ ⟨by rw [hz], by rw [hz]; exact MV.rf cv (by decide)⟩
            · refine j_aload_n 0 dX11_copy_93 rfl ?_
              refine j_getr (q := 13) dX11_copy_94 fX11_62 (shM hM sgM_0) rfl (rfM hM rfM_0_21) ?_
              refine j_iload_n 2 dX11_copy_97 rfl ?_
              refine j_ialdN q dX11_copy_98 (shM hM sgM_13) (by omega) (by omega) ?_
              refine j_if_ne (tgt := 109) dX11_copy_99 rfl (fun c7 => ?_) (fun c7 => ?_)
              · refine j_iload 5 dX11_copy_109 rfl ?_
                refine j_if_ge (tgt := 121) dX11_copy_111 rfl (fun c8 => ?_) (fun c8 => ?_)
                · refine j_iload_n 3 dX11_copy_121 rfl ?_
                  refine j_if_lt (tgt := 157) dX11_copy_122 rfl (fun c9 => ?_) (fun c9 => ?_)
                  · refine j_aload_n 0 dX11_copy_157 rfl ?_
                    refine j_bipush (-5) dX11_copy_158 bp_n5 ?_
                    refine j_callV (kc := 0) (ks := 0) (a := 0) (b := 0) (d' := d) (As := [.int (-5)]) dX11_copy_160 kX11_130 rfl (shM hM sgM_0) (by omega) rfl rfl rfl (Nat.le_of_ble_eq_true rfl) (Nat.le_of_ble_eq_true rfl) (T_X11_no hM (-5) (by decide)) (kk_p ?_)
                    refine j_iret dX11_copy_163 rfl ?_
                    have hz : copyK Z i j n p q = ((-5), (refZ Z (-5))) := by
                      clear hQ
                      clear cv hM hS ok
                      have hrp := fun z => run_e ok9 hp (i := i) (n := n) z
                      have hrq := fun z => run_e ok9 hq (i := j) (n := n) z
                      grind [copyK, cif, cpK, cpS, rrK, rrS]
                    exact hQ _ _ ⟨by rw [hz], by rw [hz]; exact MV.rf cv (by decide)⟩
                  · refine j_iload 4 dX11_copy_125 rfl ?_
                    refine j_if_lt (tgt := 157) dX11_copy_127 rfl (fun c10 => ?_) (fun c10 => ?_)
                    · refine j_aload_n 0 dX11_copy_157 rfl ?_
                      refine j_bipush (-5) dX11_copy_158 bp_n5 ?_
                      refine j_callV (kc := 0) (ks := 0) (a := 0) (b := 0) (d' := d) (As := [.int (-5)]) dX11_copy_160 kX11_130 rfl (shM hM sgM_0) (by omega) rfl rfl rfl (Nat.le_of_ble_eq_true rfl) (Nat.le_of_ble_eq_true rfl) (T_X11_no hM (-5) (by decide)) (kk_p ?_)
                      refine j_iret dX11_copy_163 rfl ?_
                      have hz : copyK Z i j n p q = ((-5), (refZ Z (-5))) := by
                        clear hQ
                        clear cv hM hS ok
                        have hrp := fun z => run_e ok9 hp (i := i) (n := n) z
                        have hrq := fun z => run_e ok9 hq (i := j) (n := n) z
                        grind [copyK, cif, cpK, cpS, rrK, rrS]
                      exact hQ _ _ ⟨by rw [hz], by rw [hz]; exact MV.rf cv (by decide)⟩
                    · refine j_iload_n 3 dX11_copy_130 rfl ?_
                      refine j_aload_n 0 dX11_copy_131 rfl ?_
                      refine j_getr (q := 15) dX11_copy_132 fX11_68 (shM hM sgM_0) rfl (rfM hM rfM_0_23) ?_
                      refine j_iload_n 1 dX11_copy_135 rfl ?_
                      refine j_ialdN p dX11_copy_136 (shM hM sgM_15) (by omega) (by omega) ?_
                      refine j_iload 5 dX11_copy_137 rfl ?_
                      refine j_isub dX11_copy_139 ?_
                      refine j_icmp_gt (tgt := 157) dX11_copy_140 rfl (fun c11 => ?_) (fun c11 => ?_)
                      · refine j_aload_n 0 dX11_copy_157 rfl ?_
                        refine j_bipush (-5) dX11_copy_158 bp_n5 ?_
                        refine j_callV (kc := 0) (ks := 0) (a := 0) (b := 0) (d' := d) (As := [.int (-5)]) dX11_copy_160 kX11_130 rfl (shM hM sgM_0) (by omega) rfl rfl rfl (Nat.le_of_ble_eq_true rfl) (Nat.le_of_ble_eq_true rfl) (T_X11_no hM (-5) (by decide)) (kk_p ?_)
                        refine j_iret dX11_copy_163 rfl ?_
                        have hz : copyK Z i j n p q = ((-5), (refZ Z (-5))) := by
                          clear hQ
                          clear cv hM hS ok
                          have hrp := fun z => run_e ok9 hp (i := i) (n := n) z
                          have hrq := fun z => run_e ok9 hq (i := j) (n := n) z
                          grind [copyK, cif, cpK, cpS, rrK, rrS]
                        exact hQ _ _ ⟨by rw [hz], by rw [hz]; exact MV.rf cv (by decide)⟩
                      · refine j_iload 4 dX11_copy_143 rfl ?_
                        refine j_aload_n 0 dX11_copy_145 rfl ?_
                        refine j_getr (q := 15) dX11_copy_146 fX11_68 (shM hM sgM_0) rfl (rfM hM rfM_0_23) ?_
                        refine j_iload_n 2 dX11_copy_149 rfl ?_
                        refine j_ialdN q dX11_copy_150 (shM hM sgM_15) (by omega) (by omega) ?_
                        refine j_iload 5 dX11_copy_151 rfl ?_
                        refine j_isub dX11_copy_153 ?_
                        refine j_icmp_le (tgt := 164) dX11_copy_154 rfl (fun c12 => ?_) (fun c12 => ?_)
                        · exact absurd (by clear hQ cv hM hS ok ok9; grind [cpK, cpS, rrK, rrS]) hno
                        · refine j_aload_n 0 dX11_copy_157 rfl ?_
                          refine j_bipush (-5) dX11_copy_158 bp_n5 ?_
                          refine j_callV (kc := 0) (ks := 0) (a := 0) (b := 0) (d' := d) (As := [.int (-5)]) dX11_copy_160 kX11_130 rfl (shM hM sgM_0) (by omega) rfl rfl rfl (Nat.le_of_ble_eq_true rfl) (Nat.le_of_ble_eq_true rfl) (T_X11_no hM (-5) (by decide)) (kk_p ?_)
                          refine j_iret dX11_copy_163 rfl ?_
                          have hz : copyK Z i j n p q = ((-5), (refZ Z (-5))) := by
                            clear hQ
                            clear cv hM hS ok
                            have hrp := fun z => run_e ok9 hp (i := i) (n := n) z
                            have hrq := fun z => run_e ok9 hq (i := j) (n := n) z
                            grind [copyK, cif, cpK, cpS, rrK, rrS]
                          exact hQ _ _ ⟨by rw [hz], by rw [hz]; exact MV.rf cv (by decide)⟩
                · refine j_aload_n 0 dX11_copy_114 rfl ?_
                  refine j_bipush (-4) dX11_copy_115 bp_n4 ?_
                  refine j_callV (kc := 0) (ks := 0) (a := 0) (b := 0) (d' := d) (As := [.int (-4)]) dX11_copy_117 kX11_130 rfl (shM hM sgM_0) (by omega) rfl rfl rfl (Nat.le_of_ble_eq_true rfl) (Nat.le_of_ble_eq_true rfl) (T_X11_no hM (-4) (by decide)) (kk_p ?_)
                  refine j_iret dX11_copy_120 rfl ?_
                  have hz : copyK Z i j n p q = ((-4), (refZ Z (-4))) := by
                    clear hQ
                    clear cv hM hS ok
                    have hrp := fun z => run_e ok9 hp (i := i) (n := n) z
                    have hrq := fun z => run_e ok9 hq (i := j) (n := n) z
                    grind [copyK, cif, cpK, cpS, rrK, rrS]
                  exact hQ _ _ ⟨by rw [hz], by rw [hz]; exact MV.rf cv (by decide)⟩
              · refine j_aload_n 0 dX11_copy_102 rfl ?_
                refine j_bipush (-3) dX11_copy_103 bp_n3 ?_
                refine j_callV (kc := 0) (ks := 0) (a := 0) (b := 0) (d' := d) (As := [.int (-3)]) dX11_copy_105 kX11_130 rfl (shM hM sgM_0) (by omega) rfl rfl rfl (Nat.le_of_ble_eq_true rfl) (Nat.le_of_ble_eq_true rfl) (T_X11_no hM (-3) (by decide)) (kk_p ?_)
                refine j_iret dX11_copy_108 rfl ?_
                have hz : copyK Z i j n p q = ((-3), (refZ Z (-3))) := by
                  clear hQ
                  clear cv hM hS ok
                  have hrp := fun z => run_e ok9 hp (i := i) (n := n) z
                  have hrq := fun z => run_e ok9 hq (i := j) (n := n) z
                  grind [copyK, cif, cpK, cpS, rrK, rrS]
                exact hQ _ _ ⟨by rw [hz], by rw [hz]; exact MV.rf cv (by decide)⟩
          · refine j_aload_n 0 dX11_copy_52 rfl ?_
            refine j_getr (q := 13) dX11_copy_53 fX11_62 (shM hM sgM_0) rfl (rfM hM rfM_0_21) ?_
            refine j_iload_n 2 dX11_copy_56 rfl ?_
            refine j_ialdN q dX11_copy_57 (shM hM sgM_13) (by omega) (by omega) ?_
            refine j_iconst 1 dX11_copy_58 ic_1 ?_
            refine j_icmp_ne (tgt := 84) dX11_copy_59 rfl (fun c13 => ?_) (fun c13 => ?_)
            · refine j_aload_n 0 dX11_copy_84 rfl ?_
              refine j_getr (q := 13) dX11_copy_85 fX11_62 (shM hM sgM_0) rfl (rfM hM rfM_0_21) ?_
              refine j_iload_n 1 dX11_copy_88 rfl ?_
              refine j_ialdN p dX11_copy_89 (shM hM sgM_13) (by omega) (by omega) ?_
              refine j_if_eq (tgt := 102) dX11_copy_90 rfl (fun c14 => ?_) (fun c14 => ?_)
              · refine j_aload_n 0 dX11_copy_102 rfl ?_
                refine j_bipush (-3) dX11_copy_103 bp_n3 ?_
                refine j_callV (kc := 0) (ks := 0) (a := 0) (b := 0) (d' := d) (As := [.int (-3)]) dX11_copy_105 kX11_130 rfl (shM hM sgM_0) (by omega) rfl rfl rfl (Nat.le_of_ble_eq_true rfl) (Nat.le_of_ble_eq_true rfl) (T_X11_no hM (-3) (by decide)) (kk_p ?_)
                refine j_iret dX11_copy_108 rfl ?_
                have hz : copyK Z i j n p q = ((-3), (refZ Z (-3))) := by
                  clear hQ
                  clear cv hM hS ok
                  have hrp := fun z => run_e ok9 hp (i := i) (n := n) z
                  have hrq := fun z => run_e ok9 hq (i := j) (n := n) z
                  grind [copyK, cif, cpK, cpS, rrK, rrS]
                exact hQ _ _ ⟨by rw [hz], by rw [hz]; exact MV.rf cv (by decide)⟩
              · refine j_aload_n 0 dX11_copy_93 rfl ?_
                refine j_getr (q := 13) dX11_copy_94 fX11_62 (shM hM sgM_0) rfl (rfM hM rfM_0_21) ?_
                refine j_iload_n 2 dX11_copy_97 rfl ?_
                refine j_ialdN q dX11_copy_98 (shM hM sgM_13) (by omega) (by omega) ?_
                refine j_if_ne (tgt := 109) dX11_copy_99 rfl (fun c15 => ?_) (fun c15 => ?_)
                · refine j_iload 5 dX11_copy_109 rfl ?_
                  refine j_if_ge (tgt := 121) dX11_copy_111 rfl (fun c16 => ?_) (fun c16 => ?_)
                  · refine j_iload_n 3 dX11_copy_121 rfl ?_
                    refine j_if_lt (tgt := 157) dX11_copy_122 rfl (fun c17 => ?_) (fun c17 => ?_)
                    · refine j_aload_n 0 dX11_copy_157 rfl ?_
                      refine j_bipush (-5) dX11_copy_158 bp_n5 ?_
                      refine j_callV (kc := 0) (ks := 0) (a := 0) (b := 0) (d' := d) (As := [.int (-5)]) dX11_copy_160 kX11_130 rfl (shM hM sgM_0) (by omega) rfl rfl rfl (Nat.le_of_ble_eq_true rfl) (Nat.le_of_ble_eq_true rfl) (T_X11_no hM (-5) (by decide)) (kk_p ?_)
                      refine j_iret dX11_copy_163 rfl ?_
                      have hz : copyK Z i j n p q = ((-5), (refZ Z (-5))) := by
                        clear hQ
                        clear cv hM hS ok
                        have hrp := fun z => run_e ok9 hp (i := i) (n := n) z
                        have hrq := fun z => run_e ok9 hq (i := j) (n := n) z
                        grind [copyK, cif, cpK, cpS, rrK, rrS]
                      exact hQ _ _ ⟨by rw [hz], by rw [hz]; exact MV.rf cv (by decide)⟩
                    · refine j_iload 4 dX11_copy_125 rfl ?_
                      refine j_if_lt (tgt := 157) dX11_copy_127 rfl (fun c18 => ?_) (fun c18 => ?_)
                      · refine j_aload_n 0 dX11_copy_157 rfl ?_
                        refine j_bipush (-5) dX11_copy_158 bp_n5 ?_
                        refine j_callV (kc := 0) (ks := 0) (a := 0) (b := 0) (d' := d) (As := [.int (-5)]) dX11_copy_160 kX11_130 rfl (shM hM sgM_0) (by omega) rfl rfl rfl (Nat.le_of_ble_eq_true rfl) (Nat.le_of_ble_eq_true rfl) (T_X11_no hM (-5) (by decide)) (kk_p ?_)
                        refine j_iret dX11_copy_163 rfl ?_
                        have hz : copyK Z i j n p q = ((-5), (refZ Z (-5))) := by
                          clear hQ
                          clear cv hM hS ok
                          have hrp := fun z => run_e ok9 hp (i := i) (n := n) z
                          have hrq := fun z => run_e ok9 hq (i := j) (n := n) z
                          grind [copyK, cif, cpK, cpS, rrK, rrS]
                        exact hQ _ _ ⟨by rw [hz], by rw [hz]; exact MV.rf cv (by decide)⟩
                      · refine j_iload_n 3 dX11_copy_130 rfl ?_
                        refine j_aload_n 0 dX11_copy_131 rfl ?_
                        refine j_getr (q := 15) dX11_copy_132 fX11_68 (shM hM sgM_0) rfl (rfM hM rfM_0_23) ?_
                        refine j_iload_n 1 dX11_copy_135 rfl ?_
                        refine j_ialdN p dX11_copy_136 (shM hM sgM_15) (by omega) (by omega) ?_
                        refine j_iload 5 dX11_copy_137 rfl ?_
                        refine j_isub dX11_copy_139 ?_
                        refine j_icmp_gt (tgt := 157) dX11_copy_140 rfl (fun c19 => ?_) (fun c19 => ?_)
                        · refine j_aload_n 0 dX11_copy_157 rfl ?_
                          refine j_bipush (-5) dX11_copy_158 bp_n5 ?_
                          refine j_callV (kc := 0) (ks := 0) (a := 0) (b := 0) (d' := d) (As := [.int (-5)]) dX11_copy_160 kX11_130 rfl (shM hM sgM_0) (by omega) rfl rfl rfl (Nat.le_of_ble_eq_true rfl) (Nat.le_of_ble_eq_true rfl) (T_X11_no hM (-5) (by decide)) (kk_p ?_)
                          refine j_iret dX11_copy_163 rfl ?_
                          have hz : copyK Z i j n p q = ((-5), (refZ Z (-5))) := by
                            clear hQ
                            clear cv hM hS ok
                            have hrp := fun z => run_e ok9 hp (i := i) (n := n) z
                            have hrq := fun z => run_e ok9 hq (i := j) (n := n) z
                            grind [copyK, cif, cpK, cpS, rrK, rrS]
                          exact hQ _ _ ⟨by rw [hz], by rw [hz]; exact MV.rf cv (by decide)⟩
                        · refine j_iload 4 dX11_copy_143 rfl ?_
                          refine j_aload_n 0 dX11_copy_145 rfl ?_
                          refine j_getr (q := 15) dX11_copy_146 fX11_68 (shM hM sgM_0) rfl (rfM hM rfM_0_23) ?_
                          refine j_iload_n 2 dX11_copy_149 rfl ?_
                          refine j_ialdN q dX11_copy_150 (shM hM sgM_15) (by omega) (by omega) ?_
                          refine j_iload 5 dX11_copy_151 rfl ?_
                          refine j_isub dX11_copy_153 ?_
                          refine j_icmp_le (tgt := 164) dX11_copy_154 rfl (fun c20 => ?_) (fun c20 => ?_)
                          · exact absurd (by clear hQ cv hM hS ok ok9; grind [cpK, cpS, rrK, rrS]) hno
                          · refine j_aload_n 0 dX11_copy_157 rfl ?_
                            refine j_bipush (-5) dX11_copy_158 bp_n5 ?_
                            refine j_callV (kc := 0) (ks := 0) (a := 0) (b := 0) (d' := d) (As := [.int (-5)]) dX11_copy_160 kX11_130 rfl (shM hM sgM_0) (by omega) rfl rfl rfl (Nat.le_of_ble_eq_true rfl) (Nat.le_of_ble_eq_true rfl) (T_X11_no hM (-5) (by decide)) (kk_p ?_)
                            refine j_iret dX11_copy_163 rfl ?_
                            have hz : copyK Z i j n p q = ((-5), (refZ Z (-5))) := by
                              clear hQ
                              clear cv hM hS ok
                              have hrp := fun z => run_e ok9 hp (i := i) (n := n) z
                              have hrq := fun z => run_e ok9 hq (i := j) (n := n) z
                              grind [copyK, cif, cpK, cpS, rrK, rrS]
                            exact hQ _ _ ⟨by rw [hz], by rw [hz]; exact MV.rf cv (by decide)⟩
                  · refine j_aload_n 0 dX11_copy_114 rfl ?_
                    refine j_bipush (-4) dX11_copy_115 bp_n4 ?_
                    refine j_callV (kc := 0) (ks := 0) (a := 0) (b := 0) (d' := d) (As := [.int (-4)]) dX11_copy_117 kX11_130 rfl (shM hM sgM_0) (by omega) rfl rfl rfl (Nat.le_of_ble_eq_true rfl) (Nat.le_of_ble_eq_true rfl) (T_X11_no hM (-4) (by decide)) (kk_p ?_)
                    refine j_iret dX11_copy_120 rfl ?_
                    have hz : copyK Z i j n p q = ((-4), (refZ Z (-4))) := by
                      clear hQ
                      clear cv hM hS ok
                      have hrp := fun z => run_e ok9 hp (i := i) (n := n) z
                      have hrq := fun z => run_e ok9 hq (i := j) (n := n) z
                      grind [copyK, cif, cpK, cpS, rrK, rrS]
                    exact hQ _ _ ⟨by rw [hz], by rw [hz]; exact MV.rf cv (by decide)⟩
                · refine j_aload_n 0 dX11_copy_102 rfl ?_
                  refine j_bipush (-3) dX11_copy_103 bp_n3 ?_
                  refine j_callV (kc := 0) (ks := 0) (a := 0) (b := 0) (d' := d) (As := [.int (-3)]) dX11_copy_105 kX11_130 rfl (shM hM sgM_0) (by omega) rfl rfl rfl (Nat.le_of_ble_eq_true rfl) (Nat.le_of_ble_eq_true rfl) (T_X11_no hM (-3) (by decide)) (kk_p ?_)
                  refine j_iret dX11_copy_108 rfl ?_
                  have hz : copyK Z i j n p q = ((-3), (refZ Z (-3))) := by
                    clear hQ
                    clear cv hM hS ok
                    have hrp := fun z => run_e ok9 hp (i := i) (n := n) z
                    have hrq := fun z => run_e ok9 hq (i := j) (n := n) z
                    grind [copyK, cif, cpK, cpS, rrK, rrS]
                  exact hQ _ _ ⟨by rw [hz], by rw [hz]; exact MV.rf cv (by decide)⟩
            · refine j_aload_n 0 dX11_copy_62 rfl ?_
              refine j_getr (q := 14) dX11_copy_63 fX11_65 (shM hM sgM_0) rfl (rfM hM rfM_0_22) ?_
              refine j_iload_n 1 dX11_copy_66 rfl ?_
              refine j_ialdN p dX11_copy_67 (shM hM sgM_14) (by omega) (by omega) ?_
              refine j_aload_n 0 dX11_copy_68 rfl ?_
              refine j_getr (q := 14) dX11_copy_69 fX11_65 (shM hM sgM_0) rfl (rfM hM rfM_0_22) ?_
              refine j_iload_n 2 dX11_copy_72 rfl ?_
              refine j_ialdN q dX11_copy_73 (shM hM sgM_14) (by omega) (by omega) ?_
              refine j_icmp_eq (tgt := 84) dX11_copy_74 rfl (fun c21 => ?_) (fun c21 => ?_)
              · refine j_aload_n 0 dX11_copy_84 rfl ?_
                refine j_getr (q := 13) dX11_copy_85 fX11_62 (shM hM sgM_0) rfl (rfM hM rfM_0_21) ?_
                refine j_iload_n 1 dX11_copy_88 rfl ?_
                refine j_ialdN p dX11_copy_89 (shM hM sgM_13) (by omega) (by omega) ?_
                refine j_if_eq (tgt := 102) dX11_copy_90 rfl (fun c22 => ?_) (fun c22 => ?_)
                · refine j_aload_n 0 dX11_copy_102 rfl ?_
                  refine j_bipush (-3) dX11_copy_103 bp_n3 ?_
                  refine j_callV (kc := 0) (ks := 0) (a := 0) (b := 0) (d' := d) (As := [.int (-3)]) dX11_copy_105 kX11_130 rfl (shM hM sgM_0) (by omega) rfl rfl rfl (Nat.le_of_ble_eq_true rfl) (Nat.le_of_ble_eq_true rfl) (T_X11_no hM (-3) (by decide)) (kk_p ?_)
                  refine j_iret dX11_copy_108 rfl ?_
                  have hz : copyK Z i j n p q = ((-3), (refZ Z (-3))) := by
                    clear hQ
                    clear cv hM hS ok
                    have hrp := fun z => run_e ok9 hp (i := i) (n := n) z
                    have hrq := fun z => run_e ok9 hq (i := j) (n := n) z
                    grind [copyK, cif, cpK, cpS, rrK, rrS]
                  exact hQ _ _ ⟨by rw [hz], by rw [hz]; exact MV.rf cv (by decide)⟩
                · refine j_aload_n 0 dX11_copy_93 rfl ?_
                  refine j_getr (q := 13) dX11_copy_94 fX11_62 (shM hM sgM_0) rfl (rfM hM rfM_0_21) ?_
                  refine j_iload_n 2 dX11_copy_97 rfl ?_
                  refine j_ialdN q dX11_copy_98 (shM hM sgM_13) (by omega) (by omega) ?_
                  refine j_if_ne (tgt := 109) dX11_copy_99 rfl (fun c23 => ?_) (fun c23 => ?_)
                  · refine j_iload 5 dX11_copy_109 rfl ?_
                    refine j_if_ge (tgt := 121) dX11_copy_111 rfl (fun c24 => ?_) (fun c24 => ?_)
                    · refine j_iload_n 3 dX11_copy_121 rfl ?_
                      refine j_if_lt (tgt := 157) dX11_copy_122 rfl (fun c25 => ?_) (fun c25 => ?_)
                      · refine j_aload_n 0 dX11_copy_157 rfl ?_
                        refine j_bipush (-5) dX11_copy_158 bp_n5 ?_
                        refine j_callV (kc := 0) (ks := 0) (a := 0) (b := 0) (d' := d) (As := [.int (-5)]) dX11_copy_160 kX11_130 rfl (shM hM sgM_0) (by omega) rfl rfl rfl (Nat.le_of_ble_eq_true rfl) (Nat.le_of_ble_eq_true rfl) (T_X11_no hM (-5) (by decide)) (kk_p ?_)
                        refine j_iret dX11_copy_163 rfl ?_
                        have hz : copyK Z i j n p q = ((-5), (refZ Z (-5))) := by
                          clear hQ
                          clear cv hM hS ok
                          have hrp := fun z => run_e ok9 hp (i := i) (n := n) z
                          have hrq := fun z => run_e ok9 hq (i := j) (n := n) z
                          grind [copyK, cif, cpK, cpS, rrK, rrS]
                        exact hQ _ _ ⟨by rw [hz], by rw [hz]; exact MV.rf cv (by decide)⟩
                      · refine j_iload 4 dX11_copy_125 rfl ?_
                        refine j_if_lt (tgt := 157) dX11_copy_127 rfl (fun c26 => ?_) (fun c26 => ?_)
                        · refine j_aload_n 0 dX11_copy_157 rfl ?_
                          refine j_bipush (-5) dX11_copy_158 bp_n5 ?_
                          refine j_callV (kc := 0) (ks := 0) (a := 0) (b := 0) (d' := d) (As := [.int (-5)]) dX11_copy_160 kX11_130 rfl (shM hM sgM_0) (by omega) rfl rfl rfl (Nat.le_of_ble_eq_true rfl) (Nat.le_of_ble_eq_true rfl) (T_X11_no hM (-5) (by decide)) (kk_p ?_)
                          refine j_iret dX11_copy_163 rfl ?_
                          have hz : copyK Z i j n p q = ((-5), (refZ Z (-5))) := by
                            clear hQ
                            clear cv hM hS ok
                            have hrp := fun z => run_e ok9 hp (i := i) (n := n) z
                            have hrq := fun z => run_e ok9 hq (i := j) (n := n) z
                            grind [copyK, cif, cpK, cpS, rrK, rrS]
                          exact hQ _ _ ⟨by rw [hz], by rw [hz]; exact MV.rf cv (by decide)⟩
                        · refine j_iload_n 3 dX11_copy_130 rfl ?_
                          refine j_aload_n 0 dX11_copy_131 rfl ?_
                          refine j_getr (q := 15) dX11_copy_132 fX11_68 (shM hM sgM_0) rfl (rfM hM rfM_0_23) ?_
                          refine j_iload_n 1 dX11_copy_135 rfl ?_
                          refine j_ialdN p dX11_copy_136 (shM hM sgM_15) (by omega) (by omega) ?_
                          refine j_iload 5 dX11_copy_137 rfl ?_
                          refine j_isub dX11_copy_139 ?_
                          refine j_icmp_gt (tgt := 157) dX11_copy_140 rfl (fun c27 => ?_) (fun c27 => ?_)
                          · refine j_aload_n 0 dX11_copy_157 rfl ?_
                            refine j_bipush (-5) dX11_copy_158 bp_n5 ?_
                            refine j_callV (kc := 0) (ks := 0) (a := 0) (b := 0) (d' := d) (As := [.int (-5)]) dX11_copy_160 kX11_130 rfl (shM hM sgM_0) (by omega) rfl rfl rfl (Nat.le_of_ble_eq_true rfl) (Nat.le_of_ble_eq_true rfl) (T_X11_no hM (-5) (by decide)) (kk_p ?_)
                            refine j_iret dX11_copy_163 rfl ?_
                            have hz : copyK Z i j n p q = ((-5), (refZ Z (-5))) := by
                              clear hQ
                              clear cv hM hS ok
                              have hrp := fun z => run_e ok9 hp (i := i) (n := n) z
                              have hrq := fun z => run_e ok9 hq (i := j) (n := n) z
                              grind [copyK, cif, cpK, cpS, rrK, rrS]
                            exact hQ _ _ ⟨by rw [hz], by rw [hz]; exact MV.rf cv (by decide)⟩
                          · refine j_iload 4 dX11_copy_143 rfl ?_
                            refine j_aload_n 0 dX11_copy_145 rfl ?_
                            refine j_getr (q := 15) dX11_copy_146 fX11_68 (shM hM sgM_0) rfl (rfM hM rfM_0_23) ?_
                            refine j_iload_n 2 dX11_copy_149 rfl ?_
                            refine j_ialdN q dX11_copy_150 (shM hM sgM_15) (by omega) (by omega) ?_
                            refine j_iload 5 dX11_copy_151 rfl ?_
                            refine j_isub dX11_copy_153 ?_
                            refine j_icmp_le (tgt := 164) dX11_copy_154 rfl (fun c28 => ?_) (fun c28 => ?_)
                            · exact absurd (by clear hQ cv hM hS ok ok9; grind [cpK, cpS, rrK, rrS]) hno
                            · refine j_aload_n 0 dX11_copy_157 rfl ?_
                              refine j_bipush (-5) dX11_copy_158 bp_n5 ?_
                              refine j_callV (kc := 0) (ks := 0) (a := 0) (b := 0) (d' := d) (As := [.int (-5)]) dX11_copy_160 kX11_130 rfl (shM hM sgM_0) (by omega) rfl rfl rfl (Nat.le_of_ble_eq_true rfl) (Nat.le_of_ble_eq_true rfl) (T_X11_no hM (-5) (by decide)) (kk_p ?_)
                              refine j_iret dX11_copy_163 rfl ?_
                              have hz : copyK Z i j n p q = ((-5), (refZ Z (-5))) := by
                                clear hQ
                                clear cv hM hS ok
                                have hrp := fun z => run_e ok9 hp (i := i) (n := n) z
                                have hrq := fun z => run_e ok9 hq (i := j) (n := n) z
                                grind [copyK, cif, cpK, cpS, rrK, rrS]
                              exact hQ _ _ ⟨by rw [hz], by rw [hz]; exact MV.rf cv (by decide)⟩
                    · refine j_aload_n 0 dX11_copy_114 rfl ?_
                      refine j_bipush (-4) dX11_copy_115 bp_n4 ?_
                      refine j_callV (kc := 0) (ks := 0) (a := 0) (b := 0) (d' := d) (As := [.int (-4)]) dX11_copy_117 kX11_130 rfl (shM hM sgM_0) (by omega) rfl rfl rfl (Nat.le_of_ble_eq_true rfl) (Nat.le_of_ble_eq_true rfl) (T_X11_no hM (-4) (by decide)) (kk_p ?_)
                      refine j_iret dX11_copy_120 rfl ?_
                      have hz : copyK Z i j n p q = ((-4), (refZ Z (-4))) := by
                        clear hQ
                        clear cv hM hS ok
                        have hrp := fun z => run_e ok9 hp (i := i) (n := n) z
                        have hrq := fun z => run_e ok9 hq (i := j) (n := n) z
                        grind [copyK, cif, cpK, cpS, rrK, rrS]
                      exact hQ _ _ ⟨by rw [hz], by rw [hz]; exact MV.rf cv (by decide)⟩
                  · refine j_aload_n 0 dX11_copy_102 rfl ?_
                    refine j_bipush (-3) dX11_copy_103 bp_n3 ?_
                    refine j_callV (kc := 0) (ks := 0) (a := 0) (b := 0) (d' := d) (As := [.int (-3)]) dX11_copy_105 kX11_130 rfl (shM hM sgM_0) (by omega) rfl rfl rfl (Nat.le_of_ble_eq_true rfl) (Nat.le_of_ble_eq_true rfl) (T_X11_no hM (-3) (by decide)) (kk_p ?_)
                    refine j_iret dX11_copy_108 rfl ?_
                    have hz : copyK Z i j n p q = ((-3), (refZ Z (-3))) := by
                      clear hQ
                      clear cv hM hS ok
                      have hrp := fun z => run_e ok9 hp (i := i) (n := n) z
                      have hrq := fun z => run_e ok9 hq (i := j) (n := n) z
                      grind [copyK, cif, cpK, cpS, rrK, rrS]
                    exact hQ _ _ ⟨by rw [hz], by rw [hz]; exact MV.rf cv (by decide)⟩
              · refine j_aload_n 0 dX11_copy_77 rfl ?_
                refine j_bipush (-2) dX11_copy_78 bp_n2 ?_
                refine j_callV (kc := 0) (ks := 0) (a := 0) (b := 0) (d' := d) (As := [.int (-2)]) dX11_copy_80 kX11_130 rfl (shM hM sgM_0) (by omega) rfl rfl rfl (Nat.le_of_ble_eq_true rfl) (Nat.le_of_ble_eq_true rfl) (T_X11_no hM (-2) (by decide)) (kk_p ?_)
                refine j_iret dX11_copy_83 rfl ?_
                have hz : copyK Z i j n p q = ((-2), (refZ Z (-2))) := by
                  clear hQ
                  clear cv hM hS ok
                  have hrp := fun z => run_e ok9 hp (i := i) (n := n) z
                  have hrq := fun z => run_e ok9 hq (i := j) (n := n) z
                  grind [copyK, cif, cpK, cpS, rrK, rrS]
                exact hQ _ _ ⟨by rw [hz], by rw [hz]; exact MV.rf cv (by decide)⟩
    · exact absurd hsq c2
set_option maxRecDepth 20000 in
set_option maxHeartbeats 4000000 in
theorem N_copy1 {d : Nat} {M : jk_M} {Z : ZS} (cv : MV M Z) (ok : Zok Z) (p q : Nat) (hp : p < 8) (hq : q < 8) (a b m zp zq : Nat) (hc : cpK Z p q = 0) (hzp9 : zp ≤ 160) (hzq9 : zq ≤ 160) (ezp : Z.2.2.1 p 1 = nI zp) (ezq : Z.2.2.1 q 1 = nI zq) (ha : a + m ≤ zp) (hb : b + m ≤ zq) : J Fr_X11_copy (d + 1) 0 0 0 [(0, .ref 0), (1, .int (nI p)), (2, .int (nI q)), (3, .int (nI a)), (4, .int (nI b)), (5, .int (nI m))] [] M (jk_ex (some (.int (copyK Z (nI a) (nI b) (nI m) p q).1)) (fun M1 => MV M1 (copyK Z (nI a) (nI b) (nI m) p q).2)) := by
  refine j_post (fun Q hQ => ?_)
  have hM := cv.1
  have hS := cv.2.1
  have okS := ok.1
  have h40 := cv.2.2.2.2.2.2.2.2.2.2.1
  have hsp := shl_k hp
  have hsmp := shm_g (cv.2.2.2.1 p hp)
  have hzop := ok.sh hp
  have hzzp := shok0 hzop
  have hsq := shl_k hq
  have hsmq := shm_g (cv.2.2.2.1 q hq)
  have hzoq := ok.sh hq
  have hzzq := shok0 hzoq
  have hf9 : (¬ Z.2.2.1 p 0 = -1 ∧ ¬ Z.2.2.1 q 0 = -1) ∧ Z.2.2.1 p 0 = Z.2.2.1 q 0 := by clear hQ; grind [cpK, cpS, rrK, rrS]
  have hhp : M.2.1 13 p = 1 := by clear hQ; grind
  have hhq : M.2.1 13 q = 1 := by clear hQ; grind
  have hsop : M.2.1 14 p = Z.2.2.1 p 0 := by clear hQ; grind
  have hsoq : M.2.1 14 q = Z.2.2.1 q 0 := by clear hQ; grind
  have hzip : M.2.1 15 p = nI zp := by rw [← ezp]; clear hQ; grind
  have hziq : M.2.1 15 q = nI zq := by rw [← ezq]; clear hQ; grind
  refine j_aload_n 0 dX11_copy_0 rfl ?_
  refine j_iload_n 1 dX11_copy_1 rfl ?_
  refine j_callV (kc := 0) (ks := 0) (a := 0) (b := 0) (d' := d) (As := [.int (nI p)]) dX11_copy_2 kX11_126 rfl (shM hM sgM_0) (by omega) rfl rfl rfl (Nat.le_of_ble_eq_true rfl) (Nat.le_of_ble_eq_true rfl) (T_X11_isShelf (nI p)) (kk_p ?_)
  refine j_if_eqB (p := (0 ≤ (nI p) ∧ (nI p) < 8)) (tgt := 16) dX11_copy_5 rfl (fun c1 => ?_) (fun c1 => ?_)
  · exact absurd hsp c1
  · refine j_aload_n 0 dX11_copy_8 rfl ?_
    refine j_iload_n 2 dX11_copy_9 rfl ?_
    refine j_callV (kc := 0) (ks := 0) (a := 0) (b := 0) (d' := d) (As := [.int (nI q)]) dX11_copy_10 kX11_126 rfl (shM hM sgM_0) (by omega) rfl rfl rfl (Nat.le_of_ble_eq_true rfl) (Nat.le_of_ble_eq_true rfl) (T_X11_isShelf (nI q)) (kk_p ?_)
    refine j_if_neB (p := (0 ≤ (nI q) ∧ (nI q) < 8)) (tgt := 22) dX11_copy_13 rfl (fun c2 => ?_) (fun c2 => ?_)
    · refine j_aload_n 0 dX11_copy_22 rfl ?_
      refine j_getr (q := 13) dX11_copy_23 fX11_62 (shM hM sgM_0) rfl (rfM hM rfM_0_21) ?_
      refine j_iload_n 1 dX11_copy_26 rfl ?_
      refine j_ialdN p dX11_copy_27 (shM hM sgM_13) (by omega) (by omega) ?_
      refine j_topi 1 hhp ?_
      refine j_iconst 2 dX11_copy_28 ic_2 ?_
      refine j_icmp_eq (tgt := 77) dX11_copy_29 rfl (fun c3 => ?_) (fun c3 => ?_)
      · exact absurd c3 (by decide)
      · refine j_aload_n 0 dX11_copy_32 rfl ?_
        refine j_getr (q := 13) dX11_copy_33 fX11_62 (shM hM sgM_0) rfl (rfM hM rfM_0_21) ?_
        refine j_iload_n 2 dX11_copy_36 rfl ?_
        refine j_ialdN q dX11_copy_37 (shM hM sgM_13) (by omega) (by omega) ?_
        refine j_topi 1 hhq ?_
        refine j_iconst 2 dX11_copy_38 ic_2 ?_
        refine j_icmp_eq (tgt := 77) dX11_copy_39 rfl (fun c4 => ?_) (fun c4 => ?_)
        · exact absurd c4 (by decide)
        · refine j_aload_n 0 dX11_copy_42 rfl ?_
          refine j_getr (q := 13) dX11_copy_43 fX11_62 (shM hM sgM_0) rfl (rfM hM rfM_0_21) ?_
          refine j_iload_n 1 dX11_copy_46 rfl ?_
          refine j_ialdN p dX11_copy_47 (shM hM sgM_13) (by omega) (by omega) ?_
          refine j_topi 1 hhp ?_
          refine j_iconst 1 dX11_copy_48 ic_1 ?_
          refine j_icmp_ne (tgt := 84) dX11_copy_49 rfl (fun c5 => ?_) (fun c5 => ?_)
          · exact absurd c5 (by decide)
          · refine j_aload_n 0 dX11_copy_52 rfl ?_
            refine j_getr (q := 13) dX11_copy_53 fX11_62 (shM hM sgM_0) rfl (rfM hM rfM_0_21) ?_
            refine j_iload_n 2 dX11_copy_56 rfl ?_
            refine j_ialdN q dX11_copy_57 (shM hM sgM_13) (by omega) (by omega) ?_
            refine j_topi 1 hhq ?_
            refine j_iconst 1 dX11_copy_58 ic_1 ?_
            refine j_icmp_ne (tgt := 84) dX11_copy_59 rfl (fun c6 => ?_) (fun c6 => ?_)
            · exact absurd c6 (by decide)
            · refine j_aload_n 0 dX11_copy_62 rfl ?_
              refine j_getr (q := 14) dX11_copy_63 fX11_65 (shM hM sgM_0) rfl (rfM hM rfM_0_22) ?_
              refine j_iload_n 1 dX11_copy_66 rfl ?_
              refine j_ialdN p dX11_copy_67 (shM hM sgM_14) (by omega) (by omega) ?_
              refine j_topi (Z.2.2.1 p 0) hsop ?_
              refine j_aload_n 0 dX11_copy_68 rfl ?_
              refine j_getr (q := 14) dX11_copy_69 fX11_65 (shM hM sgM_0) rfl (rfM hM rfM_0_22) ?_
              refine j_iload_n 2 dX11_copy_72 rfl ?_
              refine j_ialdN q dX11_copy_73 (shM hM sgM_14) (by omega) (by omega) ?_
              refine j_topi (Z.2.2.1 q 0) hsoq ?_
              refine j_icmp_eq (tgt := 84) dX11_copy_74 rfl (fun c7 => ?_) (fun c7 => ?_)
              · refine j_aload_n 0 dX11_copy_84 rfl ?_
                refine j_getr (q := 13) dX11_copy_85 fX11_62 (shM hM sgM_0) rfl (rfM hM rfM_0_21) ?_
                refine j_iload_n 1 dX11_copy_88 rfl ?_
                refine j_ialdN p dX11_copy_89 (shM hM sgM_13) (by omega) (by omega) ?_
                refine j_topi 1 hhp ?_
                refine j_if_eq (tgt := 102) dX11_copy_90 rfl (fun c8 => ?_) (fun c8 => ?_)
                · exact absurd c8 (by decide)
                · refine j_aload_n 0 dX11_copy_93 rfl ?_
                  refine j_getr (q := 13) dX11_copy_94 fX11_62 (shM hM sgM_0) rfl (rfM hM rfM_0_21) ?_
                  refine j_iload_n 2 dX11_copy_97 rfl ?_
                  refine j_ialdN q dX11_copy_98 (shM hM sgM_13) (by omega) (by omega) ?_
                  refine j_topi 1 hhq ?_
                  refine j_if_ne (tgt := 109) dX11_copy_99 rfl (fun c9 => ?_) (fun c9 => ?_)
                  · refine j_iload 5 dX11_copy_109 rfl ?_
                    refine j_if_geN (tgt := 121) m dX11_copy_111 (by omega) rfl ?_
                    refine j_iload_n 3 dX11_copy_121 rfl ?_
                    refine j_if_ltN (tgt := 157) a dX11_copy_122 (by omega) rfl ?_
                    refine j_iload 4 dX11_copy_125 rfl ?_
                    refine j_if_ltN (tgt := 157) b dX11_copy_127 (by omega) rfl ?_
                    refine j_iload_n 3 dX11_copy_130 rfl ?_
                    refine j_aload_n 0 dX11_copy_131 rfl ?_
                    refine j_getr (q := 15) dX11_copy_132 fX11_68 (shM hM sgM_0) rfl (rfM hM rfM_0_23) ?_
                    refine j_iload_n 1 dX11_copy_135 rfl ?_
                    refine j_ialdN p dX11_copy_136 (shM hM sgM_15) (by omega) (by omega) ?_
                    refine j_topi (nI zp) hzip ?_
                    refine j_iload 5 dX11_copy_137 rfl ?_
                    refine j_isubN zp m dX11_copy_139 (by omega) ?_
                    refine j_icmp_gtN (tgt := 157) a (zp - m) dX11_copy_140 rfl (by omega) (by omega) (fun c13 => ?_) (fun c13 => ?_)
                    · exact absurd c13 (by omega)
                    · refine j_iload 4 dX11_copy_143 rfl ?_
                      refine j_aload_n 0 dX11_copy_145 rfl ?_
                      refine j_getr (q := 15) dX11_copy_146 fX11_68 (shM hM sgM_0) rfl (rfM hM rfM_0_23) ?_
                      refine j_iload_n 2 dX11_copy_149 rfl ?_
                      refine j_ialdN q dX11_copy_150 (shM hM sgM_15) (by omega) (by omega) ?_
                      refine j_topi (nI zq) hziq ?_
                      refine j_iload 5 dX11_copy_151 rfl ?_
                      refine j_isubN zq m dX11_copy_153 (by omega) ?_
                      refine j_icmp_leN (tgt := 164) b (zq - m) dX11_copy_154 rfl (by omega) (by omega) (fun c14 => ?_) (fun c14 => ?_)
                      · refine j_iconst 0 dX11_copy_164 ic_0 ?_
                        refine j_istore (L' := [(6, .int 0), (0, .ref 0), (1, .int (nI p)), (2, .int (nI q)), (3, .int (nI a)), (4, .int (nI b)), (5, .int (nI m))]) dX11_copy_165 (by decide) rfl ?_
                        refine j_mem (jk_wC M 18 (M.2.2.1 18)) (by simp only [jk_wC]; exact wC_self) ?_
                        have lp17 : ∀ (k15 : Nat) (k : Nat) (f : Nat → Int64), m - k < k15 → (k ≤ m) → (∀ x, x < k → f x = M.2.2.1 17 (160 * p + a + x)) → J Fr_X11_copy (d + 1) 0 0 167 [(0, .ref 0), (1, .int (nI p)), (2, .int (nI q)), (3, .int (nI a)), (4, .int (nI b)), (5, .int (nI m)), (6, .int (nI k))] [] (jk_wC M 18 f) Q := by
                          intro k15
                          induction k15 with
                          | zero => intro k f hk; exact absurd hk (Nat.not_lt_zero _)
                          | succ k15 ih16 =>
                            intro k f hk15 hk hf
                            refine j_iload 6 dX11_copy_167 rfl ?_
                            refine j_iload 5 dX11_copy_169 rfl ?_
                            refine j_icmp_geN (tgt := 202) k m dX11_copy_171 rfl (by omega) (by omega) (fun c18 => ?_) (fun c18 => ?_)
                            · refine j_iconst 0 dX11_copy_202 ic_0 ?_
                              refine j_istore (L' := [(6, .int 0), (0, .ref 0), (1, .int (nI p)), (2, .int (nI q)), (3, .int (nI a)), (4, .int (nI b)), (5, .int (nI m))]) dX11_copy_203 (by decide) rfl ?_
                              refine j_mem (jk_wC (jk_wC M 18 f) 17 (M.2.2.1 17)) (by simp only [jk_wC]; exact wC_self (M := jk_wC M 18 f)) ?_
                              have lp21 : ∀ (k19 : Nat) (k : Nat) (g : Nat → Int64), m - k < k19 → (k ≤ m) → (RunO (M.2.2.1 17) (160 * p + a) (160 * q + b) k g) → J Fr_X11_copy (d + 1) 0 0 205 [(0, .ref 0), (1, .int (nI p)), (2, .int (nI q)), (3, .int (nI a)), (4, .int (nI b)), (5, .int (nI m)), (6, .int (nI k))] [] (jk_wC (jk_wC M 18 f) 17 g) Q := by
                                intro k19
                                induction k19 with
                                | zero => intro k g hk; exact absurd hk (Nat.not_lt_zero _)
                                | succ k19 ih20 =>
                                  intro k g hk19 hk hg
                                  refine j_iload 6 dX11_copy_205 rfl ?_
                                  refine j_iload 5 dX11_copy_207 rfl ?_
                                  refine j_icmp_geN (tgt := 241) k m dX11_copy_209 rfl (by omega) (by omega) (fun c22 => ?_) (fun c22 => ?_)
                                  · refine j_iconst 1 dX11_copy_241 ic_1 ?_
                                    refine j_iret dX11_copy_242 rfl ?_
                                    have ek : k = m := by omega
                                    subst ek
                                    have hmv := MV.cp cv (f := f) hp hq (show a + k ≤ 160 by omega) (show b + k ≤ 160 by omega) hg
                                    have hr1 : runK Z p (nI a) (nI k) := by
                                      rw [run_e ok hp (nI_pos (by omega)), ezp, pk_sub (by omega)]; exact ⟨nI_pos' (by omega), nI_nlt (by omega) (by omega)⟩
                                    have hr2 : runK Z q (nI b) (nI k) := by
                                      rw [run_e ok hq (nI_pos (by omega)), ezq, pk_sub (by omega)]; exact ⟨nI_pos' (by omega), nI_nlt (by omega) (by omega)⟩
                                    have hz : copyK Z (nI a) (nI b) (nI k) p q = (1, (shZ Z q (Z.2.2.1 q) (va_cpy (Z.2.2.2.1 p) (Z.2.2.2.1 q) (nI a).toNatClampNeg (nI b).toNatClampNeg (nI k).toNatClampNeg))) := by
                                      rw [copyK, cif_f (fun z => z hc), cif_f (nI_pos (by omega)), cif_f (fun z => z ⟨hr1, hr2⟩)]
                                    exact hQ _ _ ⟨by rw [hz], by rw [hz]; exact hmv⟩
                                  · refine j_aload_n 0 dX11_copy_212 rfl ?_
                                    refine j_getr (q := 17) dX11_copy_213 fX11_74 (shM (WM.wc (WM.wc hM)) sgM_0) rfl (rfM (WM.wc (WM.wc hM)) rfM_0_25) ?_
                                    refine j_sipush 160 dX11_copy_216 sp_160 ?_
                                    refine j_iload_n 2 dX11_copy_219 rfl ?_
                                    refine j_imulN 160 q dX11_copy_220 ?_
                                    refine j_iload 4 dX11_copy_221 rfl ?_
                                    refine j_iaddN (160 * q) b dX11_copy_223 ?_
                                    refine j_iload 6 dX11_copy_224 rfl ?_
                                    refine j_iaddN ((160 * q) + b) k dX11_copy_226 ?_
                                    refine j_aload_n 0 dX11_copy_227 rfl ?_
                                    refine j_getr (q := 18) dX11_copy_228 fX11_78 (shM (WM.wc (WM.wc hM)) sgM_0) rfl (rfM (WM.wc (WM.wc hM)) rfM_0_26) ?_
                                    refine j_iload 6 dX11_copy_231 rfl ?_
                                    refine j_laldN k dX11_copy_233 (shM (WM.wc (WM.wc hM)) sgM_18) (by omega) (by omega) ?_
                                    refine j_last dX11_copy_234 rfl (shM (WM.wc (WM.wc hM)) sgM_17) (vp_in_nI (by omega) (by omega)) ?_
                                    refine j_iinc 6 (nI (k + 1)) (L' := [(6, .int (nI (k + 1))), (0, .ref 0), (1, .int (nI p)), (2, .int (nI q)), (3, .int (nI a)), (4, .int (nI b)), (5, .int (nI m))]) dX11_copy_235 rfl (inc1 k) (by decide) rfl ?_
                                    refine j_goto (tgt := 205) dX11_copy_238 rfl ?_
                                    refine j_mem (jk_wC (jk_wC M 18 f) 17 (vp_updL g (160 * q + b + k) (f k))) (by rw [wC_at, wC_wC, nI_clamp (by omega), wC_o (by decide), wC_at]) ?_
                                    exact j_sub (jk_pick [1, 2, 3, 4, 5, 6, 0] rfl) (ih20 (k + 1) (vp_updL g (160 * q + b + k) (f k)) (by omega) (by omega) (hg.st (hf _ (by omega))))
                              exact j_sub (jk_pick [1, 2, 3, 4, 5, 6, 0] rfl) (lp21 _ 0 (M.2.2.1 17) (Nat.lt_succ_self _) (by omega) (fun x => by rw [if_neg (by omega)]))
                            · refine j_aload_n 0 dX11_copy_174 rfl ?_
                              refine j_getr (q := 18) dX11_copy_175 fX11_78 (shM (WM.wc hM) sgM_0) rfl (rfM (WM.wc hM) rfM_0_26) ?_
                              refine j_iload 6 dX11_copy_178 rfl ?_
                              refine j_aload_n 0 dX11_copy_180 rfl ?_
                              refine j_getr (q := 17) dX11_copy_181 fX11_74 (shM (WM.wc hM) sgM_0) rfl (rfM (WM.wc hM) rfM_0_25) ?_
                              refine j_sipush 160 dX11_copy_184 sp_160 ?_
                              refine j_iload_n 1 dX11_copy_187 rfl ?_
                              refine j_imulN 160 p dX11_copy_188 ?_
                              refine j_iload_n 3 dX11_copy_189 rfl ?_
                              refine j_iaddN (160 * p) a dX11_copy_190 ?_
                              refine j_iload 6 dX11_copy_191 rfl ?_
                              refine j_iaddN ((160 * p) + a) k dX11_copy_193 ?_
                              refine j_laldN (((160 * p) + a) + k) dX11_copy_194 (shM (WM.wc hM) sgM_17) (by omega) (by omega) ?_
                              refine j_last dX11_copy_195 rfl (shM (WM.wc hM) sgM_18) (vp_in_nI (by omega) (by omega)) ?_
                              refine j_iinc 6 (nI (k + 1)) (L' := [(6, .int (nI (k + 1))), (0, .ref 0), (1, .int (nI p)), (2, .int (nI q)), (3, .int (nI a)), (4, .int (nI b)), (5, .int (nI m))]) dX11_copy_196 rfl (inc1 k) (by decide) rfl ?_
                              refine j_goto (tgt := 167) dX11_copy_199 rfl ?_
                              refine j_mem (jk_wC M 18 (vp_updL f k (M.2.2.1 17 (160 * p + a + k)))) (by rw [wC_at, wC_wC, nI_clamp (by omega)]; rfl) ?_
                              exact j_sub (jk_pick [1, 2, 3, 4, 5, 6, 0] rfl) (ih16 (k + 1) (vp_updL f k (M.2.2.1 17 (160 * p + a + k))) (by omega) (by omega) (carr_e (g := f) hf rfl))
                        exact j_sub (jk_pick [1, 2, 3, 4, 5, 6, 0] rfl) (lp17 _ 0 (M.2.2.1 18) (Nat.lt_succ_self _) (by omega) (fun x hx => absurd hx (Nat.not_lt_zero x)))
                      · exact absurd c14 (by omega)
                  · exact absurd c9 (by decide)
              · exact absurd hf9.2 c7
    · exact absurd hsq c2
set_option maxRecDepth 20000 in
set_option maxHeartbeats 4000000 in
theorem N_copyYN {d : Nat} {M : jk_M} {Z : ZS} (cv : MV M Z) (ok : Zok Z) (p : Nat) (hp : p < 8) (t : Int32) (ht : ¬ (0 ≤ t ∧ t < 8)) (i j n : Int32) : J Fr_X11_copy (d + 1) 0 0 0 [(0, .ref 0), (1, .int (nI p)), (2, .int t), (3, .int i), (4, .int j), (5, .int n)] [] M (jk_ex (some (.int (((-1 : Int32), refZ Z (-1))).1)) (fun M1 => MV M1 (((-1 : Int32), refZ Z (-1))).2)) := by
  refine j_post (fun Q hQ => ?_)
  have hM := cv.1
  have hS := cv.2.1
  have okS := ok.1
  have h40 := cv.2.2.2.2.2.2.2.2.2.2.1
  refine j_aload_n 0 dX11_copy_0 rfl ?_
  refine j_iload_n 1 dX11_copy_1 rfl ?_
  refine j_callV (kc := 0) (ks := 0) (a := 0) (b := 0) (d' := d) (As := [.int (nI p)]) dX11_copy_2 kX11_126 rfl (shM hM sgM_0) (by omega) rfl rfl rfl (Nat.le_of_ble_eq_true rfl) (Nat.le_of_ble_eq_true rfl) (T_X11_isShelf (nI p)) (kk_p ?_)
  refine j_if_eqB (p := (0 ≤ (nI p) ∧ (nI p) < 8)) (tgt := 16) dX11_copy_5 rfl (fun c1 => ?_) (fun c1 => ?_)
  · exact absurd (shl_k hp) c1
  · refine j_aload_n 0 dX11_copy_8 rfl ?_
    refine j_iload_n 2 dX11_copy_9 rfl ?_
    refine j_callV (kc := 0) (ks := 0) (a := 0) (b := 0) (d' := d) (As := [.int t]) dX11_copy_10 kX11_126 rfl (shM hM sgM_0) (by omega) rfl rfl rfl (Nat.le_of_ble_eq_true rfl) (Nat.le_of_ble_eq_true rfl) (T_X11_isShelf t) (kk_p ?_)
    refine j_if_neB (p := (0 ≤ t ∧ t < 8)) (tgt := 22) dX11_copy_13 rfl (fun c2 => ?_) (fun c2 => ?_)
    · exact absurd c2 ht
    · refine j_aload_n 0 dX11_copy_16 rfl ?_
      refine j_iconst (-1) dX11_copy_17 ic_n1 ?_
      refine j_callV (kc := 0) (ks := 0) (a := 0) (b := 0) (d' := d) (As := [.int (-1)]) dX11_copy_18 kX11_130 rfl (shM hM sgM_0) (by omega) rfl rfl rfl (Nat.le_of_ble_eq_true rfl) (Nat.le_of_ble_eq_true rfl) (T_X11_no hM (-1) (by decide)) (kk_p ?_)
      refine j_iret dX11_copy_21 rfl ?_
      exact hQ _ _ ⟨rfl, MV.rf cv (by decide)⟩
set_option maxRecDepth 20000 in
set_option maxHeartbeats 4000000 in
theorem N_copyN {d : Nat} {M : jk_M} {Z : ZS} (cv : MV M Z) (ok : Zok Z) (s t : Int32) (hs : ¬ (0 ≤ s ∧ s < 8)) (i j n : Int32) : J Fr_X11_copy (d + 1) 0 0 0 [(0, .ref 0), (1, .int s), (2, .int t), (3, .int i), (4, .int j), (5, .int n)] [] M (jk_ex (some (.int (((-1 : Int32), refZ Z (-1))).1)) (fun M1 => MV M1 (((-1 : Int32), refZ Z (-1))).2)) := by
  refine j_post (fun Q hQ => ?_)
  have hM := cv.1
  have hS := cv.2.1
  have okS := ok.1
  have h40 := cv.2.2.2.2.2.2.2.2.2.2.1
  refine j_aload_n 0 dX11_copy_0 rfl ?_
  refine j_iload_n 1 dX11_copy_1 rfl ?_
  refine j_callV (kc := 0) (ks := 0) (a := 0) (b := 0) (d' := d) (As := [.int s]) dX11_copy_2 kX11_126 rfl (shM hM sgM_0) (by omega) rfl rfl rfl (Nat.le_of_ble_eq_true rfl) (Nat.le_of_ble_eq_true rfl) (T_X11_isShelf s) (kk_p ?_)
  refine j_if_eqB (p := (0 ≤ s ∧ s < 8)) (tgt := 16) dX11_copy_5 rfl (fun c1 => ?_) (fun c1 => ?_)
  · refine j_aload_n 0 dX11_copy_16 rfl ?_
    refine j_iconst (-1) dX11_copy_17 ic_n1 ?_
    refine j_callV (kc := 0) (ks := 0) (a := 0) (b := 0) (d' := d) (As := [.int (-1)]) dX11_copy_18 kX11_130 rfl (shM hM sgM_0) (by omega) rfl rfl rfl (Nat.le_of_ble_eq_true rfl) (Nat.le_of_ble_eq_true rfl) (T_X11_no hM (-1) (by decide)) (kk_p ?_)
    refine j_iret dX11_copy_21 rfl ?_
    exact hQ _ _ ⟨rfl, MV.rf cv (by decide)⟩
  · exact absurd c1 hs
theorem N_copy {d : Nat} {M : jk_M} {Z : ZS} (cv : MV M Z) (ok : Zok Z) (s t i j n : Int32) : J Fr_X11_copy (d + 1) 0 0 0 [(0, .ref 0), (1, .int s), (2, .int t), (3, .int i), (4, .int j), (5, .int n)] [] M (jk_ex (some (.int (copyZ Z s t i j n).1)) (fun M1 => MV M1 (copyZ Z s t i j n).2)) := by
  by_cases h : 0 ≤ s ∧ s < 8
  · obtain ⟨p, hp, rfl⟩ := s_in h
    by_cases h2 : 0 ≤ t ∧ t < 8
    · obtain ⟨q, hq, rfl⟩ := s_in h2
      rw [copyZ, inS_y hp, inS_y hq]
      by_cases hno : cpK Z p q = 0 ∧ ¬ n < 0 ∧ (0 ≤ i ∧ ¬ Z.2.2.1 p 1 - n < i) ∧ (0 ≤ j ∧ ¬ Z.2.2.1 q 1 - n < j)
      · obtain ⟨h1, h3, ⟨h4, h5⟩, h6, h7⟩ := hno
        obtain ⟨zp, hzp, ezp⟩ := ok.sz hp
        obtain ⟨zq, hzq, ezq⟩ := ok.sz hq
        obtain ⟨m, hm, rfl⟩ := nI_of h3
        obtain ⟨a, ha, rfl⟩ := nI_of (Int32.not_lt.mpr h4)
        obtain ⟨b, hb, rfl⟩ := nI_of (Int32.not_lt.mpr h6)
        have key : ∀ z x : Nat, z ≤ 160 → x < 2 ^ 31 → ¬ nI z - nI m < nI x → x + m ≤ z := fun z x hz hx hh => by
          have ez : (nI z).toInt = z := nI_toInt (by omega)
          have em : (nI m).toInt = m := nI_toInt hm
          have ex : (nI x).toInt = x := nI_toInt hx
          have es : (nI z - nI m).toInt = (z : Int) - m := by
            have := Jvm.Kit.i32_sub (x := nI z) (y := nI m) (by rw [ez, em]; omega) (by rw [ez, em]; omega)
            rw [this, ez, em]
          rw [Int32.lt_iff_toInt_lt, es, ex] at hh
          omega
        rw [ezp] at h5
        rw [ezq] at h7
        exact N_copy1 cv ok p q hp hq a b m zp zq h1 hzp hzq ezp ezq (key zp a hzp ha h5) (key zq b hzq hb h7)
      · exact N_copy0 cv ok p q hp hq i j n hno
    · rw [copyZ, inS_y hp, inS_n h2]; exact N_copyYN cv ok p hp t h2 i j n
  · rw [copyZ, inS_n h]; exact N_copyN cv ok s t h i j n
