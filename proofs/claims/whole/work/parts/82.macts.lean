/-! acts, by the model -/
def PVr (q k : Nat) : Prop := (q = 0 ∧ k = 49) ∨ q = 31
theorem MV.vz {M M1 : jk_M} {Z : ZS} {V : Nat → Int32} (h : MV M Z) (s : Fm PVr M M1) (h49 : M1.2.1 0 49 = V 10) (h31 : ∀ i, i < 20 → M1.2.1 31 i = V (11 + i)) (he : ∀ i, i < 10 → V i = Z.2.2.2.2 i) : MV M1 (vZ Z V) := by
  obtain ⟨h1, h2, h3, h4, h5, h6, h7, h8, h9, h10, h11, h12, h13⟩ := h
  have en : ∀ q, q ≠ 0 → q ≠ 31 → M1.2.1 q = M.2.1 q := fun q a b => by
    funext k; exact s.2.2 q k (by unfold PVr; omega)
  have e0 : ∀ k, k ≠ 49 → M1.2.1 0 k = M.2.1 0 k := fun k hk => s.2.2 0 k (by unfold PVr; omega)
  refine ⟨s.M h1, s.mv h2 (fun q k hq => by unfold PH at hq; unfold PVr; omega), fun h => ?_, fun t ht => by rw [en 13 (by omega) (by omega), en 14 (by omega) (by omega), en 15 (by omega) (by omega), en 16 (by omega) (by omega)]; exact h4 t ht, fun t ht i hi => by rw [s.2.1]; exact h5 t ht i hi, fun i hi => ?_, ?_, ?_, h49, h31, (e0 40 (by omega)).trans h11, fun i hi => by rw [en 19 (by omega) (by omega)]; exact h12 i hi, fun i hi => by rw [en 20 (by omega) (by omega)]; exact h13 i hi⟩
  · have h : V 8 = 1 := h
    rw [he 8 (by omega)] at h
    rw [en 23 (by omega) (by omega)]; exact h3 h
  · show _ = V i
    rw [en 1 (by omega) (by omega), he i (by omega)]; exact h6 i hi
  · show _ = V 8
    rw [he 8 (by omega)]; exact (e0 50 (by omega)).trans h7
  · show _ = V 9
    rw [he 9 (by omega)]; exact (e0 8 (by omega)).trans h8
theorem nt_y {V : Nat → Int32} {q : Nat} {b : Int32} (hq : V 10 = nI q) (h : q < 20) : noteV V b = va_up (va_up V (11 + q) b) 10 (nI (q + 1)) := by
  rw [noteV, hq, if_pos ⟨nI_pos' (by omega), by rw [show (20 : Int32) = nI 20 by decide]; exact nI_lt h (by decide)⟩, nI_clamp (by omega), nI_succ]
theorem nt_n {V : Nat → Int32} {q : Nat} {b : Int32} (hq : V 10 = nI q) (h : ¬ q < 20) (hb : q < 1000) : noteV V b = va_up V 10 (nI (q + 1)) := by
  rw [noteV, hq, if_neg (fun z => h (by have z2 := z.2; rw [show (20 : Int32) = nI 20 by decide, nI_ltI (by omega) (by decide)] at z2; exact z2)), nI_succ]
theorem nt_10 {V : Nat → Int32} {q : Nat} {b : Int32} (hq : V 10 = nI q) : noteV V b 10 = nI (q + 1) := by
  rw [noteV, va_up_self, hq, nI_succ]
theorem nl_10 : ∀ (l : List Int32) {V : Nat → Int32} {q : Nat}, V 10 = nI q → noteVL V l 10 = nI (q + l.length)
  | [], V, q, h => h
  | b :: l, V, q, h => by
    show noteVL (noteV V b) l 10 = _
    rw [nl_10 l (nt_10 h), List.length_cons]; congr 1; omega
theorem nl_app (l l2 : List Int32) : ∀ V, noteVL V (l ++ l2) = noteVL (noteVL V l) l2 := by
  induction l with
  | nil => intro V; rfl
  | cons b l ih => intro V; exact ih _
theorem st_len (k : Nat) : (stL k).length ≤ 3 := by
  unfold stL
  (repeat' split) <;> simp
theorem tk_len (k : Nat) : (tkL k).length ≤ 5 := by
  have := st_len k
  unfold tkL
  (repeat' split) <;> simp only [List.length_cons] <;> omega
set_option maxRecDepth 20000 in
set_option maxHeartbeats 4000000 in
theorem T_X11_body {d : Nat} {M : jk_M} {Z : ZS} (cv : MV M Z) {q : Nat} (hq : Z.2.2.2.2 10 = nI q) (hq9 : q < 100) (b : Int32) : J Fr_X11_body d 0 0 0 [(0, .ref 0), (1, .int b)] [] M (jk_ex none (fun M1 => MV M1 (vZ Z (noteV Z.2.2.2.2 b)))) := by
  refine j_post (fun Q hQ => ?_)
  have hM := cv.1
  refine j_aload_n 0 dX11_body_0 rfl ?_
  refine j_getv (nI q) dX11_body_1 fX11_318 (shM hM sgM_0) rfl (cv.2.2.2.2.2.2.2.2.1.trans hq) ?_
  refine j_bipush 20 dX11_body_4 bp_20 ?_
  refine j_icmp_geN (tgt := 19) q 20 dX11_body_6 rfl (by omega) (by omega) (fun c1 => ?_) (fun c1 => ?_)
  · refine j_aload_n 0 dX11_body_19 rfl ?_
    refine j_dup dX11_body_20 rfl ?_
    refine j_getv (nI q) dX11_body_21 fX11_318 (shM hM sgM_0) rfl (cv.2.2.2.2.2.2.2.2.1.trans hq) ?_
    refine j_iconst 1 dX11_body_24 ic_1 ?_
    refine j_iaddN q 1 dX11_body_25 ?_
    refine j_put dX11_body_26 fX11_318 (shM hM sgM_0) rfl ?_
    have sm2 : Fm PVr M (jk_wI M 0 49 (nI (q + 1))) := Fm.w Fm.rf (by unfold PVr; omega)
    refine j_vret dX11_body_29 rfl ?_
    rw [nt_n hq (by omega) (by omega)] at hQ
    exact hQ _ _ ⟨rfl, MV.vz cv sm2 (by rw [rd_s, va_up_self]) (fun i hi => by rw [rd_o (by decide), va_up_ne _ _ (by omega)]; exact cv.2.2.2.2.2.2.2.2.2.1 i hi) (fun i hi => by rw [va_up_ne _ _ (by omega)])⟩
  · refine j_aload_n 0 dX11_body_9 rfl ?_
    refine j_getr (q := 31) dX11_body_10 fX11_120 (shM hM sgM_0) rfl (rfM hM rfM_0_48) ?_
    refine j_aload_n 0 dX11_body_13 rfl ?_
    refine j_getv (nI q) dX11_body_14 fX11_318 (shM hM sgM_0) rfl (cv.2.2.2.2.2.2.2.2.1.trans hq) ?_
    refine j_iload_n 1 dX11_body_17 rfl ?_
    refine j_iastN q dX11_body_18 (shM hM sgM_31) (by omega) (by omega) ?_
    have sm3 : Fm PVr M (jk_wI M 31 q b) := Fm.w Fm.rf (by unfold PVr; omega)
    refine j_aload_n 0 dX11_body_19 rfl ?_
    refine j_dup dX11_body_20 rfl ?_
    refine j_getv (nI q) dX11_body_21 fX11_318 (shM (Fm.M sm3 hM) sgM_0) rfl ((rd_o (by decide)).trans (cv.2.2.2.2.2.2.2.2.1.trans hq)) ?_
    refine j_iconst 1 dX11_body_24 ic_1 ?_
    refine j_iaddN q 1 dX11_body_25 ?_
    refine j_put dX11_body_26 fX11_318 (shM (Fm.M sm3 hM) sgM_0) rfl ?_
    have sm4 : Fm PVr M (jk_wI (jk_wI M 31 q b) 0 49 (nI (q + 1))) := Fm.w sm3 (by unfold PVr; omega)
    refine j_vret dX11_body_29 rfl ?_
    rw [nt_y hq (by omega)] at hQ
    exact hQ _ _ ⟨rfl, MV.vz cv sm4 (by rw [rd_s, va_up_self]) (fun i hi => by
        rw [rd_o (by decide), va_up_ne _ _ (by omega)]
        by_cases e : i = q
        · subst e; rw [rd_s, va_up_self]
        · rw [rd_k e, va_up_ne _ _ (by omega)]; exact cv.2.2.2.2.2.2.2.2.2.1 i hi) (fun i hi => by rw [va_up_ne _ _ (by omega), va_up_ne _ _ (by omega)])⟩
set_option maxRecDepth 20000 in
set_option maxHeartbeats 4000000 in
theorem T_st0 {d : Nat} {M : jk_M} {Z : ZS} (cv : MV M Z) {q : Nat} (hq : Z.2.2.2.2 10 = nI q) (hq9 : q < 90) (i : Nat) (hi : i < nT Z.1) (hi16 : i < 16) (x : Int32) (hkk : Z.1 10 i = 0) : J Fr_X11_standing (d + 1) 0 0 0 [(0, .ref 0), (1, .int (nI i)), (2, .int x)] [] M (jk_ex (some (.int (stV 0 (Z.1 11 i) (nI i) x))) (fun M1 => MV M1 (vZ Z (noteVL Z.2.2.2.2 (stL 0))))) := by
  refine j_post (fun Q hQ => ?_)
  have hM := cv.1
  have hl3 := st_len 0
  have hl5 := tk_len 0
  refine j_aload_n 0 dX11_standing_0 rfl ?_
  refine j_getr (q := 2) dX11_standing_1 fX11_29 (shM hM sgM_0) rfl (rfM hM rfM_0_10) ?_
  refine j_iload_n 1 dX11_standing_4 rfl ?_
  refine j_ialdN i dX11_standing_5 (shM hM sgM_2) (by omega) (by omega) ?_
  refine j_topi 0 ((mr_arT cv.2.1 (k := 0) hi (by decide)).trans hkk) ?_
  refine j_istore_n (L' := [(3, .int 0), (0, .ref 0), (1, .int (nI i)), (2, .int x)]) dX11_standing_6 (by decide) rfl ?_
  refine j_iload_n 0 dX11_standing_7 rfl ?_
  refine j_bipush 6 dX11_standing_8 bp_6 ?_
  refine j_icmp_ne (tgt := 19) dX11_standing_10 rfl (fun c1 => ?_) (fun c1 => ?_)
  · refine j_iload_n 0 dX11_standing_19 rfl ?_
    refine j_iconst 4 dX11_standing_20 ic_4 ?_
    refine j_icmp_eq (tgt := 30) dX11_standing_21 rfl (fun c2 => ?_) (fun c2 => ?_)
    · exact absurd c2 (by decide)
    · refine j_iload_n 0 dX11_standing_24 rfl ?_
      refine j_bipush 6 dX11_standing_25 bp_6 ?_
      refine j_icmp_ne (tgt := 36) dX11_standing_27 rfl (fun c3 => ?_) (fun c3 => ?_)
      · refine j_iload_n 0 dX11_standing_36 rfl ?_
        refine j_iconst 1 dX11_standing_37 ic_1 ?_
        refine j_icmp_eq (tgt := 46) dX11_standing_38 rfl (fun c4 => ?_) (fun c4 => ?_)
        · exact absurd c4 (by decide)
        · refine j_iload_n 0 dX11_standing_41 rfl ?_
          refine j_iconst 3 dX11_standing_42 ic_3 ?_
          refine j_icmp_ne (tgt := 52) dX11_standing_43 rfl (fun c5 => ?_) (fun c5 => ?_)
          · refine j_aload_n 1 dX11_standing_52 rfl ?_
            refine j_bipush 10 dX11_standing_53 bp_10 ?_
            refine j_callV (kc := 0) (ks := 0) (a := 0) (b := 0) (d' := d) (As := [.int 10]) dX11_standing_55 kX11_321 rfl (shM hM sgM_0) (by omega) rfl rfl rfl (Nat.le_of_ble_eq_true rfl) (Nat.le_of_ble_eq_true rfl) (T_X11_body cv (q := q) hq (by omega) 10) (kk_ev (fun M6 hM7 => ?_))
            have cv8 : MV M6 (vZ Z (noteV Z.2.2.2.2 10)) := hM7
            have hq9 : (noteV Z.2.2.2.2 10) 10 = nI (q + 1) := nt_10 hq
            refine j_iload_n 3 dX11_standing_58 rfl ?_
            refine j_iload_n 2 dX11_standing_59 rfl ?_
            refine j_iadd dX11_standing_60 ?_
            refine j_istore (L' := [(4, .int (x + (nI i))), (3, .int 0), (0, .ref 0), (1, .int (nI i)), (2, .int x)]) dX11_standing_61 (by decide) rfl ?_
            refine j_iload_n 1 dX11_standing_63 rfl ?_
            refine j_iconst 1 dX11_standing_64 ic_1 ?_
            refine j_icmp_eq (tgt := 73) dX11_standing_65 rfl (fun c10 => ?_) (fun c10 => ?_)
            · exact absurd c10 (by decide)
            · refine j_iload_n 1 dX11_standing_68 rfl ?_
              refine j_iconst 3 dX11_standing_69 ic_3 ?_
              refine j_icmp_ne (tgt := 84) dX11_standing_70 rfl (fun c11 => ?_) (fun c11 => ?_)
              · refine j_iload_n 1 dX11_standing_84 rfl ?_
                refine j_iconst 4 dX11_standing_85 ic_4 ?_
                refine j_icmp_eq (tgt := 95) dX11_standing_86 rfl (fun c12 => ?_) (fun c12 => ?_)
                · exact absurd c12 (by decide)
                · refine j_iload_n 1 dX11_standing_89 rfl ?_
                  refine j_bipush 6 dX11_standing_90 bp_6 ?_
                  refine j_icmp_ne (tgt := 101) dX11_standing_92 rfl (fun c13 => ?_) (fun c13 => ?_)
                  · refine j_iload_n 1 dX11_standing_101 rfl ?_
                    refine j_bipush 6 dX11_standing_102 bp_6 ?_
                    refine j_icmp_ne (tgt := 114) dX11_standing_104 rfl (fun c14 => ?_) (fun c14 => ?_)
                    · refine j_iload 0 dX11_standing_114 rfl ?_
                      refine j_iret dX11_standing_116 rfl ?_
                      have hV : noteVL Z.2.2.2.2 (stL 0) = (noteV Z.2.2.2.2 10) := rfl
                      have hv : stV 0 (Z.1 11 i) (nI i) x = (x + (nI i)) := rfl
                      rw [hV, hv] at hQ
                      exact hQ _ _ ⟨rfl, cv8⟩
                    · exact absurd c14 (by decide)
                  · exact absurd c13 (by decide)
              · exact absurd c11 (by decide)
          · exact absurd c5 (by decide)
      · exact absurd c3 (by decide)
  · exact absurd c1 (by decide)
set_option maxRecDepth 20000 in
set_option maxHeartbeats 4000000 in
theorem T_st1 {d : Nat} {M : jk_M} {Z : ZS} (cv : MV M Z) {q : Nat} (hq : Z.2.2.2.2 10 = nI q) (hq9 : q < 90) (i : Nat) (hi : i < nT Z.1) (hi16 : i < 16) (x : Int32) (hkk : Z.1 10 i = 1) : J Fr_X11_standing (d + 1) 0 0 0 [(0, .ref 0), (1, .int (nI i)), (2, .int x)] [] M (jk_ex (some (.int (stV 1 (Z.1 11 i) (nI i) x))) (fun M1 => MV M1 (vZ Z (noteVL Z.2.2.2.2 (stL 1))))) := by
  refine j_post (fun Q hQ => ?_)
  have hM := cv.1
  have hl3 := st_len 1
  have hl5 := tk_len 1
  refine j_aload_n 0 dX11_standing_0 rfl ?_
  refine j_getr (q := 2) dX11_standing_1 fX11_29 (shM hM sgM_0) rfl (rfM hM rfM_0_10) ?_
  refine j_iload_n 1 dX11_standing_4 rfl ?_
  refine j_ialdN i dX11_standing_5 (shM hM sgM_2) (by omega) (by omega) ?_
  refine j_topi 1 ((mr_arT cv.2.1 (k := 0) hi (by decide)).trans hkk) ?_
  refine j_istore_n (L' := [(3, .int 1), (0, .ref 0), (1, .int (nI i)), (2, .int x)]) dX11_standing_6 (by decide) rfl ?_
  refine j_iload_n 0 dX11_standing_7 rfl ?_
  refine j_bipush 6 dX11_standing_8 bp_6 ?_
  refine j_icmp_ne (tgt := 19) dX11_standing_10 rfl (fun c1 => ?_) (fun c1 => ?_)
  · refine j_iload_n 0 dX11_standing_19 rfl ?_
    refine j_iconst 4 dX11_standing_20 ic_4 ?_
    refine j_icmp_eq (tgt := 30) dX11_standing_21 rfl (fun c2 => ?_) (fun c2 => ?_)
    · exact absurd c2 (by decide)
    · refine j_iload_n 0 dX11_standing_24 rfl ?_
      refine j_bipush 6 dX11_standing_25 bp_6 ?_
      refine j_icmp_ne (tgt := 36) dX11_standing_27 rfl (fun c3 => ?_) (fun c3 => ?_)
      · refine j_iload_n 0 dX11_standing_36 rfl ?_
        refine j_iconst 1 dX11_standing_37 ic_1 ?_
        refine j_icmp_eq (tgt := 46) dX11_standing_38 rfl (fun c4 => ?_) (fun c4 => ?_)
        · refine j_aload_n 1 dX11_standing_46 rfl ?_
          refine j_bipush 20 dX11_standing_47 bp_20 ?_
          refine j_callV (kc := 0) (ks := 0) (a := 0) (b := 0) (d' := d) (As := [.int 20]) dX11_standing_49 kX11_321 rfl (shM hM sgM_0) (by omega) rfl rfl rfl (Nat.le_of_ble_eq_true rfl) (Nat.le_of_ble_eq_true rfl) (T_X11_body cv (q := q) hq (by omega) 20) (kk_ev (fun M5 hM6 => ?_))
          have cv7 : MV M5 (vZ Z (noteV Z.2.2.2.2 20)) := hM6
          have hq8 : (noteV Z.2.2.2.2 20) 10 = nI (q + 1) := nt_10 hq
          refine j_aload_n 1 dX11_standing_52 rfl ?_
          refine j_bipush 10 dX11_standing_53 bp_10 ?_
          refine j_callV (kc := 0) (ks := 0) (a := 0) (b := 0) (d' := d) (As := [.int 10]) dX11_standing_55 kX11_321 rfl (shM cv7.1 sgM_0) (by omega) rfl rfl rfl (Nat.le_of_ble_eq_true rfl) (Nat.le_of_ble_eq_true rfl) (T_X11_body cv7 (q := (q + 1)) hq8 (by omega) 10) (kk_ev (fun M9 hM10 => ?_))
          have cv11 : MV M9 (vZ Z (noteV (noteV Z.2.2.2.2 20) 10)) := hM10
          have hq12 : (noteV (noteV Z.2.2.2.2 20) 10) 10 = nI ((q + 1) + 1) := nt_10 hq8
          refine j_iload_n 3 dX11_standing_58 rfl ?_
          refine j_iload_n 2 dX11_standing_59 rfl ?_
          refine j_iadd dX11_standing_60 ?_
          refine j_istore (L' := [(4, .int (x + (nI i))), (3, .int 1), (0, .ref 0), (1, .int (nI i)), (2, .int x)]) dX11_standing_61 (by decide) rfl ?_
          refine j_iload_n 1 dX11_standing_63 rfl ?_
          refine j_iconst 1 dX11_standing_64 ic_1 ?_
          refine j_icmp_eq (tgt := 73) dX11_standing_65 rfl (fun c13 => ?_) (fun c13 => ?_)
          · refine j_iload 0 dX11_standing_73 rfl ?_
            refine j_aload_n 2 dX11_standing_75 rfl ?_
            refine j_getr (q := 3) dX11_standing_76 fX11_32 (shM cv11.1 sgM_0) rfl (rfM cv11.1 rfM_0_11) ?_
            refine j_iload_n 3 dX11_standing_79 rfl ?_
            refine j_ialdN i dX11_standing_80 (shM cv11.1 sgM_3) (by omega) (by omega) ?_
            refine j_topi (Z.1 11 i) (mr_arT cv11.2.1 (k := 1) hi (by decide)) ?_
            refine j_iadd dX11_standing_81 ?_
            refine j_istore (L' := [(4, .int ((x + (nI i)) + (Z.1 11 i))), (3, .int 1), (0, .ref 0), (1, .int (nI i)), (2, .int x)]) dX11_standing_82 (by decide) rfl ?_
            refine j_iload_n 1 dX11_standing_84 rfl ?_
            refine j_iconst 4 dX11_standing_85 ic_4 ?_
            refine j_icmp_eq (tgt := 95) dX11_standing_86 rfl (fun c14 => ?_) (fun c14 => ?_)
            · exact absurd c14 (by decide)
            · refine j_iload_n 1 dX11_standing_89 rfl ?_
              refine j_bipush 6 dX11_standing_90 bp_6 ?_
              refine j_icmp_ne (tgt := 101) dX11_standing_92 rfl (fun c15 => ?_) (fun c15 => ?_)
              · refine j_iload_n 1 dX11_standing_101 rfl ?_
                refine j_bipush 6 dX11_standing_102 bp_6 ?_
                refine j_icmp_ne (tgt := 114) dX11_standing_104 rfl (fun c16 => ?_) (fun c16 => ?_)
                · refine j_iload 0 dX11_standing_114 rfl ?_
                  refine j_iret dX11_standing_116 rfl ?_
                  have hV : noteVL Z.2.2.2.2 (stL 1) = (noteV (noteV Z.2.2.2.2 20) 10) := rfl
                  have hv : stV 1 (Z.1 11 i) (nI i) x = ((x + (nI i)) + (Z.1 11 i)) := rfl
                  rw [hV, hv] at hQ
                  exact hQ _ _ ⟨rfl, cv11⟩
                · exact absurd c16 (by decide)
              · exact absurd c15 (by decide)
          · exact absurd c13 (by decide)
        · exact absurd c4 (by decide)
      · exact absurd c3 (by decide)
  · exact absurd c1 (by decide)
set_option maxRecDepth 20000 in
set_option maxHeartbeats 4000000 in
theorem T_st2 {d : Nat} {M : jk_M} {Z : ZS} (cv : MV M Z) {q : Nat} (hq : Z.2.2.2.2 10 = nI q) (hq9 : q < 90) (i : Nat) (hi : i < nT Z.1) (hi16 : i < 16) (x : Int32) (hkk : Z.1 10 i = 2) : J Fr_X11_standing (d + 1) 0 0 0 [(0, .ref 0), (1, .int (nI i)), (2, .int x)] [] M (jk_ex (some (.int (stV 2 (Z.1 11 i) (nI i) x))) (fun M1 => MV M1 (vZ Z (noteVL Z.2.2.2.2 (stL 2))))) := by
  refine j_post (fun Q hQ => ?_)
  have hM := cv.1
  have hl3 := st_len 2
  have hl5 := tk_len 2
  refine j_aload_n 0 dX11_standing_0 rfl ?_
  refine j_getr (q := 2) dX11_standing_1 fX11_29 (shM hM sgM_0) rfl (rfM hM rfM_0_10) ?_
  refine j_iload_n 1 dX11_standing_4 rfl ?_
  refine j_ialdN i dX11_standing_5 (shM hM sgM_2) (by omega) (by omega) ?_
  refine j_topi 2 ((mr_arT cv.2.1 (k := 0) hi (by decide)).trans hkk) ?_
  refine j_istore_n (L' := [(3, .int 2), (0, .ref 0), (1, .int (nI i)), (2, .int x)]) dX11_standing_6 (by decide) rfl ?_
  refine j_iload_n 0 dX11_standing_7 rfl ?_
  refine j_bipush 6 dX11_standing_8 bp_6 ?_
  refine j_icmp_ne (tgt := 19) dX11_standing_10 rfl (fun c1 => ?_) (fun c1 => ?_)
  · refine j_iload_n 0 dX11_standing_19 rfl ?_
    refine j_iconst 4 dX11_standing_20 ic_4 ?_
    refine j_icmp_eq (tgt := 30) dX11_standing_21 rfl (fun c2 => ?_) (fun c2 => ?_)
    · exact absurd c2 (by decide)
    · refine j_iload_n 0 dX11_standing_24 rfl ?_
      refine j_bipush 6 dX11_standing_25 bp_6 ?_
      refine j_icmp_ne (tgt := 36) dX11_standing_27 rfl (fun c3 => ?_) (fun c3 => ?_)
      · refine j_iload_n 0 dX11_standing_36 rfl ?_
        refine j_iconst 1 dX11_standing_37 ic_1 ?_
        refine j_icmp_eq (tgt := 46) dX11_standing_38 rfl (fun c4 => ?_) (fun c4 => ?_)
        · exact absurd c4 (by decide)
        · refine j_iload_n 0 dX11_standing_41 rfl ?_
          refine j_iconst 3 dX11_standing_42 ic_3 ?_
          refine j_icmp_ne (tgt := 52) dX11_standing_43 rfl (fun c5 => ?_) (fun c5 => ?_)
          · refine j_aload_n 1 dX11_standing_52 rfl ?_
            refine j_bipush 10 dX11_standing_53 bp_10 ?_
            refine j_callV (kc := 0) (ks := 0) (a := 0) (b := 0) (d' := d) (As := [.int 10]) dX11_standing_55 kX11_321 rfl (shM hM sgM_0) (by omega) rfl rfl rfl (Nat.le_of_ble_eq_true rfl) (Nat.le_of_ble_eq_true rfl) (T_X11_body cv (q := q) hq (by omega) 10) (kk_ev (fun M6 hM7 => ?_))
            have cv8 : MV M6 (vZ Z (noteV Z.2.2.2.2 10)) := hM7
            have hq9 : (noteV Z.2.2.2.2 10) 10 = nI (q + 1) := nt_10 hq
            refine j_iload_n 3 dX11_standing_58 rfl ?_
            refine j_iload_n 2 dX11_standing_59 rfl ?_
            refine j_iadd dX11_standing_60 ?_
            refine j_istore (L' := [(4, .int (x + (nI i))), (3, .int 2), (0, .ref 0), (1, .int (nI i)), (2, .int x)]) dX11_standing_61 (by decide) rfl ?_
            refine j_iload_n 1 dX11_standing_63 rfl ?_
            refine j_iconst 1 dX11_standing_64 ic_1 ?_
            refine j_icmp_eq (tgt := 73) dX11_standing_65 rfl (fun c10 => ?_) (fun c10 => ?_)
            · exact absurd c10 (by decide)
            · refine j_iload_n 1 dX11_standing_68 rfl ?_
              refine j_iconst 3 dX11_standing_69 ic_3 ?_
              refine j_icmp_ne (tgt := 84) dX11_standing_70 rfl (fun c11 => ?_) (fun c11 => ?_)
              · refine j_iload_n 1 dX11_standing_84 rfl ?_
                refine j_iconst 4 dX11_standing_85 ic_4 ?_
                refine j_icmp_eq (tgt := 95) dX11_standing_86 rfl (fun c12 => ?_) (fun c12 => ?_)
                · exact absurd c12 (by decide)
                · refine j_iload_n 1 dX11_standing_89 rfl ?_
                  refine j_bipush 6 dX11_standing_90 bp_6 ?_
                  refine j_icmp_ne (tgt := 101) dX11_standing_92 rfl (fun c13 => ?_) (fun c13 => ?_)
                  · refine j_iload_n 1 dX11_standing_101 rfl ?_
                    refine j_bipush 6 dX11_standing_102 bp_6 ?_
                    refine j_icmp_ne (tgt := 114) dX11_standing_104 rfl (fun c14 => ?_) (fun c14 => ?_)
                    · refine j_iload 0 dX11_standing_114 rfl ?_
                      refine j_iret dX11_standing_116 rfl ?_
                      have hV : noteVL Z.2.2.2.2 (stL 2) = (noteV Z.2.2.2.2 10) := rfl
                      have hv : stV 2 (Z.1 11 i) (nI i) x = (x + (nI i)) := rfl
                      rw [hV, hv] at hQ
                      exact hQ _ _ ⟨rfl, cv8⟩
                    · exact absurd c14 (by decide)
                  · exact absurd c13 (by decide)
              · exact absurd c11 (by decide)
          · exact absurd c5 (by decide)
      · exact absurd c3 (by decide)
  · exact absurd c1 (by decide)
set_option maxRecDepth 20000 in
set_option maxHeartbeats 4000000 in
theorem T_st3 {d : Nat} {M : jk_M} {Z : ZS} (cv : MV M Z) {q : Nat} (hq : Z.2.2.2.2 10 = nI q) (hq9 : q < 90) (i : Nat) (hi : i < nT Z.1) (hi16 : i < 16) (x : Int32) (hkk : Z.1 10 i = 3) : J Fr_X11_standing (d + 1) 0 0 0 [(0, .ref 0), (1, .int (nI i)), (2, .int x)] [] M (jk_ex (some (.int (stV 3 (Z.1 11 i) (nI i) x))) (fun M1 => MV M1 (vZ Z (noteVL Z.2.2.2.2 (stL 3))))) := by
  refine j_post (fun Q hQ => ?_)
  have hM := cv.1
  have hl3 := st_len 3
  have hl5 := tk_len 3
  refine j_aload_n 0 dX11_standing_0 rfl ?_
  refine j_getr (q := 2) dX11_standing_1 fX11_29 (shM hM sgM_0) rfl (rfM hM rfM_0_10) ?_
  refine j_iload_n 1 dX11_standing_4 rfl ?_
  refine j_ialdN i dX11_standing_5 (shM hM sgM_2) (by omega) (by omega) ?_
  refine j_topi 3 ((mr_arT cv.2.1 (k := 0) hi (by decide)).trans hkk) ?_
  refine j_istore_n (L' := [(3, .int 3), (0, .ref 0), (1, .int (nI i)), (2, .int x)]) dX11_standing_6 (by decide) rfl ?_
  refine j_iload_n 0 dX11_standing_7 rfl ?_
  refine j_bipush 6 dX11_standing_8 bp_6 ?_
  refine j_icmp_ne (tgt := 19) dX11_standing_10 rfl (fun c1 => ?_) (fun c1 => ?_)
  · refine j_iload_n 0 dX11_standing_19 rfl ?_
    refine j_iconst 4 dX11_standing_20 ic_4 ?_
    refine j_icmp_eq (tgt := 30) dX11_standing_21 rfl (fun c2 => ?_) (fun c2 => ?_)
    · exact absurd c2 (by decide)
    · refine j_iload_n 0 dX11_standing_24 rfl ?_
      refine j_bipush 6 dX11_standing_25 bp_6 ?_
      refine j_icmp_ne (tgt := 36) dX11_standing_27 rfl (fun c3 => ?_) (fun c3 => ?_)
      · refine j_iload_n 0 dX11_standing_36 rfl ?_
        refine j_iconst 1 dX11_standing_37 ic_1 ?_
        refine j_icmp_eq (tgt := 46) dX11_standing_38 rfl (fun c4 => ?_) (fun c4 => ?_)
        · exact absurd c4 (by decide)
        · refine j_iload_n 0 dX11_standing_41 rfl ?_
          refine j_iconst 3 dX11_standing_42 ic_3 ?_
          refine j_icmp_ne (tgt := 52) dX11_standing_43 rfl (fun c5 => ?_) (fun c5 => ?_)
          · exact absurd c5 (by decide)
          · refine j_aload_n 1 dX11_standing_46 rfl ?_
            refine j_bipush 20 dX11_standing_47 bp_20 ?_
            refine j_callV (kc := 0) (ks := 0) (a := 0) (b := 0) (d' := d) (As := [.int 20]) dX11_standing_49 kX11_321 rfl (shM hM sgM_0) (by omega) rfl rfl rfl (Nat.le_of_ble_eq_true rfl) (Nat.le_of_ble_eq_true rfl) (T_X11_body cv (q := q) hq (by omega) 20) (kk_ev (fun M6 hM7 => ?_))
            have cv8 : MV M6 (vZ Z (noteV Z.2.2.2.2 20)) := hM7
            have hq9 : (noteV Z.2.2.2.2 20) 10 = nI (q + 1) := nt_10 hq
            refine j_aload_n 1 dX11_standing_52 rfl ?_
            refine j_bipush 10 dX11_standing_53 bp_10 ?_
            refine j_callV (kc := 0) (ks := 0) (a := 0) (b := 0) (d' := d) (As := [.int 10]) dX11_standing_55 kX11_321 rfl (shM cv8.1 sgM_0) (by omega) rfl rfl rfl (Nat.le_of_ble_eq_true rfl) (Nat.le_of_ble_eq_true rfl) (T_X11_body cv8 (q := (q + 1)) hq9 (by omega) 10) (kk_ev (fun M10 hM11 => ?_))
            have cv12 : MV M10 (vZ Z (noteV (noteV Z.2.2.2.2 20) 10)) := hM11
            have hq13 : (noteV (noteV Z.2.2.2.2 20) 10) 10 = nI ((q + 1) + 1) := nt_10 hq9
            refine j_iload_n 3 dX11_standing_58 rfl ?_
            refine j_iload_n 2 dX11_standing_59 rfl ?_
            refine j_iadd dX11_standing_60 ?_
            refine j_istore (L' := [(4, .int (x + (nI i))), (3, .int 3), (0, .ref 0), (1, .int (nI i)), (2, .int x)]) dX11_standing_61 (by decide) rfl ?_
            refine j_iload_n 1 dX11_standing_63 rfl ?_
            refine j_iconst 1 dX11_standing_64 ic_1 ?_
            refine j_icmp_eq (tgt := 73) dX11_standing_65 rfl (fun c14 => ?_) (fun c14 => ?_)
            · exact absurd c14 (by decide)
            · refine j_iload_n 1 dX11_standing_68 rfl ?_
              refine j_iconst 3 dX11_standing_69 ic_3 ?_
              refine j_icmp_ne (tgt := 84) dX11_standing_70 rfl (fun c15 => ?_) (fun c15 => ?_)
              · exact absurd c15 (by decide)
              · refine j_iload 0 dX11_standing_73 rfl ?_
                refine j_aload_n 2 dX11_standing_75 rfl ?_
                refine j_getr (q := 3) dX11_standing_76 fX11_32 (shM cv12.1 sgM_0) rfl (rfM cv12.1 rfM_0_11) ?_
                refine j_iload_n 3 dX11_standing_79 rfl ?_
                refine j_ialdN i dX11_standing_80 (shM cv12.1 sgM_3) (by omega) (by omega) ?_
                refine j_topi (Z.1 11 i) (mr_arT cv12.2.1 (k := 1) hi (by decide)) ?_
                refine j_iadd dX11_standing_81 ?_
                refine j_istore (L' := [(4, .int ((x + (nI i)) + (Z.1 11 i))), (3, .int 3), (0, .ref 0), (1, .int (nI i)), (2, .int x)]) dX11_standing_82 (by decide) rfl ?_
                refine j_iload_n 1 dX11_standing_84 rfl ?_
                refine j_iconst 4 dX11_standing_85 ic_4 ?_
                refine j_icmp_eq (tgt := 95) dX11_standing_86 rfl (fun c16 => ?_) (fun c16 => ?_)
                · exact absurd c16 (by decide)
                · refine j_iload_n 1 dX11_standing_89 rfl ?_
                  refine j_bipush 6 dX11_standing_90 bp_6 ?_
                  refine j_icmp_ne (tgt := 101) dX11_standing_92 rfl (fun c17 => ?_) (fun c17 => ?_)
                  · refine j_iload_n 1 dX11_standing_101 rfl ?_
                    refine j_bipush 6 dX11_standing_102 bp_6 ?_
                    refine j_icmp_ne (tgt := 114) dX11_standing_104 rfl (fun c18 => ?_) (fun c18 => ?_)
                    · refine j_iload 0 dX11_standing_114 rfl ?_
                      refine j_iret dX11_standing_116 rfl ?_
                      have hV : noteVL Z.2.2.2.2 (stL 3) = (noteV (noteV Z.2.2.2.2 20) 10) := rfl
                      have hv : stV 3 (Z.1 11 i) (nI i) x = ((x + (nI i)) + (Z.1 11 i)) := rfl
                      rw [hV, hv] at hQ
                      exact hQ _ _ ⟨rfl, cv12⟩
                    · exact absurd c18 (by decide)
                  · exact absurd c17 (by decide)
      · exact absurd c3 (by decide)
  · exact absurd c1 (by decide)
set_option maxRecDepth 20000 in
set_option maxHeartbeats 4000000 in
theorem T_st4 {d : Nat} {M : jk_M} {Z : ZS} (cv : MV M Z) {q : Nat} (hq : Z.2.2.2.2 10 = nI q) (hq9 : q < 90) (i : Nat) (hi : i < nT Z.1) (hi16 : i < 16) (x : Int32) (hkk : Z.1 10 i = 4) : J Fr_X11_standing (d + 1) 0 0 0 [(0, .ref 0), (1, .int (nI i)), (2, .int x)] [] M (jk_ex (some (.int (stV 4 (Z.1 11 i) (nI i) x))) (fun M1 => MV M1 (vZ Z (noteVL Z.2.2.2.2 (stL 4))))) := by
  refine j_post (fun Q hQ => ?_)
  have hM := cv.1
  have hl3 := st_len 4
  have hl5 := tk_len 4
  refine j_aload_n 0 dX11_standing_0 rfl ?_
  refine j_getr (q := 2) dX11_standing_1 fX11_29 (shM hM sgM_0) rfl (rfM hM rfM_0_10) ?_
  refine j_iload_n 1 dX11_standing_4 rfl ?_
  refine j_ialdN i dX11_standing_5 (shM hM sgM_2) (by omega) (by omega) ?_
  refine j_topi 4 ((mr_arT cv.2.1 (k := 0) hi (by decide)).trans hkk) ?_
  refine j_istore_n (L' := [(3, .int 4), (0, .ref 0), (1, .int (nI i)), (2, .int x)]) dX11_standing_6 (by decide) rfl ?_
  refine j_iload_n 0 dX11_standing_7 rfl ?_
  refine j_bipush 6 dX11_standing_8 bp_6 ?_
  refine j_icmp_ne (tgt := 19) dX11_standing_10 rfl (fun c1 => ?_) (fun c1 => ?_)
  · refine j_iload_n 0 dX11_standing_19 rfl ?_
    refine j_iconst 4 dX11_standing_20 ic_4 ?_
    refine j_icmp_eq (tgt := 30) dX11_standing_21 rfl (fun c2 => ?_) (fun c2 => ?_)
    · refine j_aload_n 1 dX11_standing_30 rfl ?_
      refine j_bipush 51 dX11_standing_31 bp_51 ?_
      refine j_callV (kc := 0) (ks := 0) (a := 0) (b := 0) (d' := d) (As := [.int 51]) dX11_standing_33 kX11_321 rfl (shM hM sgM_0) (by omega) rfl rfl rfl (Nat.le_of_ble_eq_true rfl) (Nat.le_of_ble_eq_true rfl) (T_X11_body cv (q := q) hq (by omega) 51) (kk_ev (fun M3 hM4 => ?_))
      have cv5 : MV M3 (vZ Z (noteV Z.2.2.2.2 51)) := hM4
      have hq6 : (noteV Z.2.2.2.2 51) 10 = nI (q + 1) := nt_10 hq
      refine j_iload_n 0 dX11_standing_36 rfl ?_
      refine j_iconst 1 dX11_standing_37 ic_1 ?_
      refine j_icmp_eq (tgt := 46) dX11_standing_38 rfl (fun c7 => ?_) (fun c7 => ?_)
      · exact absurd c7 (by decide)
      · refine j_iload_n 0 dX11_standing_41 rfl ?_
        refine j_iconst 3 dX11_standing_42 ic_3 ?_
        refine j_icmp_ne (tgt := 52) dX11_standing_43 rfl (fun c8 => ?_) (fun c8 => ?_)
        · refine j_aload_n 1 dX11_standing_52 rfl ?_
          refine j_bipush 10 dX11_standing_53 bp_10 ?_
          refine j_callV (kc := 0) (ks := 0) (a := 0) (b := 0) (d' := d) (As := [.int 10]) dX11_standing_55 kX11_321 rfl (shM cv5.1 sgM_0) (by omega) rfl rfl rfl (Nat.le_of_ble_eq_true rfl) (Nat.le_of_ble_eq_true rfl) (T_X11_body cv5 (q := (q + 1)) hq6 (by omega) 10) (kk_ev (fun M9 hM10 => ?_))
          have cv11 : MV M9 (vZ Z (noteV (noteV Z.2.2.2.2 51) 10)) := hM10
          have hq12 : (noteV (noteV Z.2.2.2.2 51) 10) 10 = nI ((q + 1) + 1) := nt_10 hq6
          refine j_iload_n 3 dX11_standing_58 rfl ?_
          refine j_iload_n 2 dX11_standing_59 rfl ?_
          refine j_iadd dX11_standing_60 ?_
          refine j_istore (L' := [(4, .int (x + (nI i))), (3, .int 4), (0, .ref 0), (1, .int (nI i)), (2, .int x)]) dX11_standing_61 (by decide) rfl ?_
          refine j_iload_n 1 dX11_standing_63 rfl ?_
          refine j_iconst 1 dX11_standing_64 ic_1 ?_
          refine j_icmp_eq (tgt := 73) dX11_standing_65 rfl (fun c13 => ?_) (fun c13 => ?_)
          · exact absurd c13 (by decide)
          · refine j_iload_n 1 dX11_standing_68 rfl ?_
            refine j_iconst 3 dX11_standing_69 ic_3 ?_
            refine j_icmp_ne (tgt := 84) dX11_standing_70 rfl (fun c14 => ?_) (fun c14 => ?_)
            · refine j_iload_n 1 dX11_standing_84 rfl ?_
              refine j_iconst 4 dX11_standing_85 ic_4 ?_
              refine j_icmp_eq (tgt := 95) dX11_standing_86 rfl (fun c15 => ?_) (fun c15 => ?_)
              · refine j_iload 0 dX11_standing_95 rfl ?_
                refine j_iload_n 3 dX11_standing_97 rfl ?_
                refine j_isub dX11_standing_98 ?_
                refine j_istore (L' := [(4, .int ((x + (nI i)) - (nI i))), (3, .int 4), (0, .ref 0), (1, .int (nI i)), (2, .int x)]) dX11_standing_99 (by decide) rfl ?_
                refine j_iload_n 1 dX11_standing_101 rfl ?_
                refine j_bipush 6 dX11_standing_102 bp_6 ?_
                refine j_icmp_ne (tgt := 114) dX11_standing_104 rfl (fun c16 => ?_) (fun c16 => ?_)
                · refine j_iload 0 dX11_standing_114 rfl ?_
                  refine j_iret dX11_standing_116 rfl ?_
                  have hV : noteVL Z.2.2.2.2 (stL 4) = (noteV (noteV Z.2.2.2.2 51) 10) := rfl
                  have hv : stV 4 (Z.1 11 i) (nI i) x = ((x + (nI i)) - (nI i)) := rfl
                  rw [hV, hv] at hQ
                  exact hQ _ _ ⟨rfl, cv11⟩
                · exact absurd c16 (by decide)
              · exact absurd c15 (by decide)
            · exact absurd c14 (by decide)
        · exact absurd c8 (by decide)
    · exact absurd c2 (by decide)
  · exact absurd c1 (by decide)
set_option maxRecDepth 20000 in
set_option maxHeartbeats 4000000 in
theorem T_st5 {d : Nat} {M : jk_M} {Z : ZS} (cv : MV M Z) {q : Nat} (hq : Z.2.2.2.2 10 = nI q) (hq9 : q < 90) (i : Nat) (hi : i < nT Z.1) (hi16 : i < 16) (x : Int32) (hkk : Z.1 10 i = 5) : J Fr_X11_standing (d + 1) 0 0 0 [(0, .ref 0), (1, .int (nI i)), (2, .int x)] [] M (jk_ex (some (.int (stV 5 (Z.1 11 i) (nI i) x))) (fun M1 => MV M1 (vZ Z (noteVL Z.2.2.2.2 (stL 5))))) := by
  refine j_post (fun Q hQ => ?_)
  have hM := cv.1
  have hl3 := st_len 5
  have hl5 := tk_len 5
  refine j_aload_n 0 dX11_standing_0 rfl ?_
  refine j_getr (q := 2) dX11_standing_1 fX11_29 (shM hM sgM_0) rfl (rfM hM rfM_0_10) ?_
  refine j_iload_n 1 dX11_standing_4 rfl ?_
  refine j_ialdN i dX11_standing_5 (shM hM sgM_2) (by omega) (by omega) ?_
  refine j_topi 5 ((mr_arT cv.2.1 (k := 0) hi (by decide)).trans hkk) ?_
  refine j_istore_n (L' := [(3, .int 5), (0, .ref 0), (1, .int (nI i)), (2, .int x)]) dX11_standing_6 (by decide) rfl ?_
  refine j_iload_n 0 dX11_standing_7 rfl ?_
  refine j_bipush 6 dX11_standing_8 bp_6 ?_
  refine j_icmp_ne (tgt := 19) dX11_standing_10 rfl (fun c1 => ?_) (fun c1 => ?_)
  · refine j_iload_n 0 dX11_standing_19 rfl ?_
    refine j_iconst 4 dX11_standing_20 ic_4 ?_
    refine j_icmp_eq (tgt := 30) dX11_standing_21 rfl (fun c2 => ?_) (fun c2 => ?_)
    · exact absurd c2 (by decide)
    · refine j_iload_n 0 dX11_standing_24 rfl ?_
      refine j_bipush 6 dX11_standing_25 bp_6 ?_
      refine j_icmp_ne (tgt := 36) dX11_standing_27 rfl (fun c3 => ?_) (fun c3 => ?_)
      · refine j_iload_n 0 dX11_standing_36 rfl ?_
        refine j_iconst 1 dX11_standing_37 ic_1 ?_
        refine j_icmp_eq (tgt := 46) dX11_standing_38 rfl (fun c4 => ?_) (fun c4 => ?_)
        · exact absurd c4 (by decide)
        · refine j_iload_n 0 dX11_standing_41 rfl ?_
          refine j_iconst 3 dX11_standing_42 ic_3 ?_
          refine j_icmp_ne (tgt := 52) dX11_standing_43 rfl (fun c5 => ?_) (fun c5 => ?_)
          · refine j_aload_n 1 dX11_standing_52 rfl ?_
            refine j_bipush 10 dX11_standing_53 bp_10 ?_
            refine j_callV (kc := 0) (ks := 0) (a := 0) (b := 0) (d' := d) (As := [.int 10]) dX11_standing_55 kX11_321 rfl (shM hM sgM_0) (by omega) rfl rfl rfl (Nat.le_of_ble_eq_true rfl) (Nat.le_of_ble_eq_true rfl) (T_X11_body cv (q := q) hq (by omega) 10) (kk_ev (fun M6 hM7 => ?_))
            have cv8 : MV M6 (vZ Z (noteV Z.2.2.2.2 10)) := hM7
            have hq9 : (noteV Z.2.2.2.2 10) 10 = nI (q + 1) := nt_10 hq
            refine j_iload_n 3 dX11_standing_58 rfl ?_
            refine j_iload_n 2 dX11_standing_59 rfl ?_
            refine j_iadd dX11_standing_60 ?_
            refine j_istore (L' := [(4, .int (x + (nI i))), (3, .int 5), (0, .ref 0), (1, .int (nI i)), (2, .int x)]) dX11_standing_61 (by decide) rfl ?_
            refine j_iload_n 1 dX11_standing_63 rfl ?_
            refine j_iconst 1 dX11_standing_64 ic_1 ?_
            refine j_icmp_eq (tgt := 73) dX11_standing_65 rfl (fun c10 => ?_) (fun c10 => ?_)
            · exact absurd c10 (by decide)
            · refine j_iload_n 1 dX11_standing_68 rfl ?_
              refine j_iconst 3 dX11_standing_69 ic_3 ?_
              refine j_icmp_ne (tgt := 84) dX11_standing_70 rfl (fun c11 => ?_) (fun c11 => ?_)
              · refine j_iload_n 1 dX11_standing_84 rfl ?_
                refine j_iconst 4 dX11_standing_85 ic_4 ?_
                refine j_icmp_eq (tgt := 95) dX11_standing_86 rfl (fun c12 => ?_) (fun c12 => ?_)
                · exact absurd c12 (by decide)
                · refine j_iload_n 1 dX11_standing_89 rfl ?_
                  refine j_bipush 6 dX11_standing_90 bp_6 ?_
                  refine j_icmp_ne (tgt := 101) dX11_standing_92 rfl (fun c13 => ?_) (fun c13 => ?_)
                  · refine j_iload_n 1 dX11_standing_101 rfl ?_
                    refine j_bipush 6 dX11_standing_102 bp_6 ?_
                    refine j_icmp_ne (tgt := 114) dX11_standing_104 rfl (fun c14 => ?_) (fun c14 => ?_)
                    · refine j_iload 0 dX11_standing_114 rfl ?_
                      refine j_iret dX11_standing_116 rfl ?_
                      have hV : noteVL Z.2.2.2.2 (stL 5) = (noteV Z.2.2.2.2 10) := rfl
                      have hv : stV 5 (Z.1 11 i) (nI i) x = (x + (nI i)) := rfl
                      rw [hV, hv] at hQ
                      exact hQ _ _ ⟨rfl, cv8⟩
                    · exact absurd c14 (by decide)
                  · exact absurd c13 (by decide)
              · exact absurd c11 (by decide)
          · exact absurd c5 (by decide)
      · exact absurd c3 (by decide)
  · exact absurd c1 (by decide)
set_option maxRecDepth 20000 in
set_option maxHeartbeats 4000000 in
theorem T_st6 {d : Nat} {M : jk_M} {Z : ZS} (cv : MV M Z) {q : Nat} (hq : Z.2.2.2.2 10 = nI q) (hq9 : q < 90) (i : Nat) (hi : i < nT Z.1) (hi16 : i < 16) (x : Int32) (hkk : Z.1 10 i = 6) : J Fr_X11_standing (d + 1) 0 0 0 [(0, .ref 0), (1, .int (nI i)), (2, .int x)] [] M (jk_ex (some (.int (stV 6 (Z.1 11 i) (nI i) x))) (fun M1 => MV M1 (vZ Z (noteVL Z.2.2.2.2 (stL 6))))) := by
  refine j_post (fun Q hQ => ?_)
  have hM := cv.1
  have hl3 := st_len 6
  have hl5 := tk_len 6
  refine j_aload_n 0 dX11_standing_0 rfl ?_
  refine j_getr (q := 2) dX11_standing_1 fX11_29 (shM hM sgM_0) rfl (rfM hM rfM_0_10) ?_
  refine j_iload_n 1 dX11_standing_4 rfl ?_
  refine j_ialdN i dX11_standing_5 (shM hM sgM_2) (by omega) (by omega) ?_
  refine j_topi 6 ((mr_arT cv.2.1 (k := 0) hi (by decide)).trans hkk) ?_
  refine j_istore_n (L' := [(3, .int 6), (0, .ref 0), (1, .int (nI i)), (2, .int x)]) dX11_standing_6 (by decide) rfl ?_
  refine j_iload_n 0 dX11_standing_7 rfl ?_
  refine j_bipush 6 dX11_standing_8 bp_6 ?_
  refine j_icmp_ne (tgt := 19) dX11_standing_10 rfl (fun c1 => ?_) (fun c1 => ?_)
  · exact absurd c1 (by decide)
  · refine j_aload_n 1 dX11_standing_13 rfl ?_
    refine j_bipush 70 dX11_standing_14 bp_70 ?_
    refine j_callV (kc := 0) (ks := 0) (a := 0) (b := 0) (d' := d) (As := [.int 70]) dX11_standing_16 kX11_321 rfl (shM hM sgM_0) (by omega) rfl rfl rfl (Nat.le_of_ble_eq_true rfl) (Nat.le_of_ble_eq_true rfl) (T_X11_body cv (q := q) hq (by omega) 70) (kk_ev (fun M2 hM3 => ?_))
    have cv4 : MV M2 (vZ Z (noteV Z.2.2.2.2 70)) := hM3
    have hq5 : (noteV Z.2.2.2.2 70) 10 = nI (q + 1) := nt_10 hq
    refine j_iload_n 0 dX11_standing_19 rfl ?_
    refine j_iconst 4 dX11_standing_20 ic_4 ?_
    refine j_icmp_eq (tgt := 30) dX11_standing_21 rfl (fun c6 => ?_) (fun c6 => ?_)
    · exact absurd c6 (by decide)
    · refine j_iload_n 0 dX11_standing_24 rfl ?_
      refine j_bipush 6 dX11_standing_25 bp_6 ?_
      refine j_icmp_ne (tgt := 36) dX11_standing_27 rfl (fun c7 => ?_) (fun c7 => ?_)
      · exact absurd c7 (by decide)
      · refine j_aload_n 1 dX11_standing_30 rfl ?_
        refine j_bipush 51 dX11_standing_31 bp_51 ?_
        refine j_callV (kc := 0) (ks := 0) (a := 0) (b := 0) (d' := d) (As := [.int 51]) dX11_standing_33 kX11_321 rfl (shM cv4.1 sgM_0) (by omega) rfl rfl rfl (Nat.le_of_ble_eq_true rfl) (Nat.le_of_ble_eq_true rfl) (T_X11_body cv4 (q := (q + 1)) hq5 (by omega) 51) (kk_ev (fun M8 hM9 => ?_))
        have cv10 : MV M8 (vZ Z (noteV (noteV Z.2.2.2.2 70) 51)) := hM9
        have hq11 : (noteV (noteV Z.2.2.2.2 70) 51) 10 = nI ((q + 1) + 1) := nt_10 hq5
        refine j_iload_n 0 dX11_standing_36 rfl ?_
        refine j_iconst 1 dX11_standing_37 ic_1 ?_
        refine j_icmp_eq (tgt := 46) dX11_standing_38 rfl (fun c12 => ?_) (fun c12 => ?_)
        · exact absurd c12 (by decide)
        · refine j_iload_n 0 dX11_standing_41 rfl ?_
          refine j_iconst 3 dX11_standing_42 ic_3 ?_
          refine j_icmp_ne (tgt := 52) dX11_standing_43 rfl (fun c13 => ?_) (fun c13 => ?_)
          · refine j_aload_n 1 dX11_standing_52 rfl ?_
            refine j_bipush 10 dX11_standing_53 bp_10 ?_
            refine j_callV (kc := 0) (ks := 0) (a := 0) (b := 0) (d' := d) (As := [.int 10]) dX11_standing_55 kX11_321 rfl (shM cv10.1 sgM_0) (by omega) rfl rfl rfl (Nat.le_of_ble_eq_true rfl) (Nat.le_of_ble_eq_true rfl) (T_X11_body cv10 (q := ((q + 1) + 1)) hq11 (by omega) 10) (kk_ev (fun M14 hM15 => ?_))
            have cv16 : MV M14 (vZ Z (noteV (noteV (noteV Z.2.2.2.2 70) 51) 10)) := hM15
            have hq17 : (noteV (noteV (noteV Z.2.2.2.2 70) 51) 10) 10 = nI (((q + 1) + 1) + 1) := nt_10 hq11
            refine j_iload_n 3 dX11_standing_58 rfl ?_
            refine j_iload_n 2 dX11_standing_59 rfl ?_
            refine j_iadd dX11_standing_60 ?_
            refine j_istore (L' := [(4, .int (x + (nI i))), (3, .int 6), (0, .ref 0), (1, .int (nI i)), (2, .int x)]) dX11_standing_61 (by decide) rfl ?_
            refine j_iload_n 1 dX11_standing_63 rfl ?_
            refine j_iconst 1 dX11_standing_64 ic_1 ?_
            refine j_icmp_eq (tgt := 73) dX11_standing_65 rfl (fun c18 => ?_) (fun c18 => ?_)
            · exact absurd c18 (by decide)
            · refine j_iload_n 1 dX11_standing_68 rfl ?_
              refine j_iconst 3 dX11_standing_69 ic_3 ?_
              refine j_icmp_ne (tgt := 84) dX11_standing_70 rfl (fun c19 => ?_) (fun c19 => ?_)
              · refine j_iload_n 1 dX11_standing_84 rfl ?_
                refine j_iconst 4 dX11_standing_85 ic_4 ?_
                refine j_icmp_eq (tgt := 95) dX11_standing_86 rfl (fun c20 => ?_) (fun c20 => ?_)
                · exact absurd c20 (by decide)
                · refine j_iload_n 1 dX11_standing_89 rfl ?_
                  refine j_bipush 6 dX11_standing_90 bp_6 ?_
                  refine j_icmp_ne (tgt := 101) dX11_standing_92 rfl (fun c21 => ?_) (fun c21 => ?_)
                  · exact absurd c21 (by decide)
                  · refine j_iload 0 dX11_standing_95 rfl ?_
                    refine j_iload_n 3 dX11_standing_97 rfl ?_
                    refine j_isub dX11_standing_98 ?_
                    refine j_istore (L' := [(4, .int ((x + (nI i)) - (nI i))), (3, .int 6), (0, .ref 0), (1, .int (nI i)), (2, .int x)]) dX11_standing_99 (by decide) rfl ?_
                    refine j_iload_n 1 dX11_standing_101 rfl ?_
                    refine j_bipush 6 dX11_standing_102 bp_6 ?_
                    refine j_icmp_ne (tgt := 114) dX11_standing_104 rfl (fun c22 => ?_) (fun c22 => ?_)
                    · exact absurd c22 (by decide)
                    · refine j_iload 0 dX11_standing_107 rfl ?_
                      refine j_iconst 2 dX11_standing_109 ic_2 ?_
                      refine j_imul dX11_standing_110 ?_
                      refine j_goto (tgt := 116) dX11_standing_111 rfl ?_
                      refine j_iret dX11_standing_116 rfl ?_
                      have hV : noteVL Z.2.2.2.2 (stL 6) = (noteV (noteV (noteV Z.2.2.2.2 70) 51) 10) := rfl
                      have hv : stV 6 (Z.1 11 i) (nI i) x = (((x + (nI i)) - (nI i)) * 2) := rfl
                      rw [hV, hv] at hQ
                      exact hQ _ _ ⟨rfl, cv16⟩
              · exact absurd c19 (by decide)
          · exact absurd c13 (by decide)
theorem T_st {d : Nat} {M : jk_M} {Z : ZS} (cv : MV M Z) {q : Nat} (hq : Z.2.2.2.2 10 = nI q) (hq9 : q < 90) (k : Nat) (hk : k < 7) (i : Nat) (hi : i < nT Z.1) (hi16 : i < 16) (x : Int32) (hkk : Z.1 10 i = nI k) : J Fr_X11_standing (d + 1) 0 0 0 [(0, .ref 0), (1, .int (nI i)), (2, .int x)] [] M (jk_ex (some (.int (stV k (Z.1 11 i) (nI i) x))) (fun M1 => MV M1 (vZ Z (noteVL Z.2.2.2.2 (stL k))))) := by
  have h7 : k = 0 ∨ k = 1 ∨ k = 2 ∨ k = 3 ∨ k = 4 ∨ k = 5 ∨ k = 6 := by omega
  rcases h7 with rfl | rfl | rfl | rfl | rfl | rfl | rfl
  · exact T_st0 cv hq hq9 i hi hi16 x hkk
  · exact T_st1 cv hq hq9 i hi hi16 x hkk
  · exact T_st2 cv hq hq9 i hi hi16 x hkk
  · exact T_st3 cv hq hq9 i hi hi16 x hkk
  · exact T_st4 cv hq hq9 i hi hi16 x hkk
  · exact T_st5 cv hq hq9 i hi hi16 x hkk
  · exact T_st6 cv hq hq9 i hi hi16 x hkk
set_option maxRecDepth 20000 in
set_option maxHeartbeats 4000000 in
theorem T_tk0 {d : Nat} {M : jk_M} {Z : ZS} (cv : MV M Z) {q : Nat} (hq : Z.2.2.2.2 10 = nI q) (hq9 : q < 80) (i : Nat) (hi : i < nT Z.1) (hi16 : i < 16) (x : Int32) (hkk : Z.1 10 i = 0) : J Fr_X11_taking (d + 2) 0 0 0 [(0, .ref 0), (1, .int (nI i)), (2, .int x)] [] M (jk_ex (some (.int (tkV 0 (Z.1 11 i) (nI i) x))) (fun M1 => MV M1 (vZ Z (noteVL Z.2.2.2.2 (tkL 0))))) := by
  refine j_post (fun Q hQ => ?_)
  have hM := cv.1
  have hl3 := st_len 0
  have hl5 := tk_len 0
  refine j_aload_n 0 dX11_taking_0 rfl ?_
  refine j_getr (q := 2) dX11_taking_1 fX11_29 (shM hM sgM_0) rfl (rfM hM rfM_0_10) ?_
  refine j_iload_n 1 dX11_taking_4 rfl ?_
  refine j_ialdN i dX11_taking_5 (shM hM sgM_2) (by omega) (by omega) ?_
  refine j_topi 0 ((mr_arT cv.2.1 (k := 0) hi (by decide)).trans hkk) ?_
  refine j_istore_n (L' := [(3, .int 0), (0, .ref 0), (1, .int (nI i)), (2, .int x)]) dX11_taking_6 (by decide) rfl ?_
  refine j_iload_n 3 dX11_taking_7 rfl ?_
  refine j_istore (L' := [(4, .int x), (3, .int 0), (0, .ref 0), (1, .int (nI i)), (2, .int x)]) dX11_taking_8 (by decide) rfl ?_
  refine j_iload_n 1 dX11_taking_10 rfl ?_
  refine j_bipush 6 dX11_taking_11 bp_6 ?_
  refine j_icmp_ne (tgt := 32) dX11_taking_13 rfl (fun c1 => ?_) (fun c1 => ?_)
  · refine j_iload_n 1 dX11_taking_32 rfl ?_
    refine j_iconst 3 dX11_taking_33 ic_3 ?_
    refine j_icmp_ne (tgt := 48) dX11_taking_34 rfl (fun c2 => ?_) (fun c2 => ?_)
    · refine j_iload_n 1 dX11_taking_48 rfl ?_
      refine j_iconst 2 dX11_taking_49 ic_2 ?_
      refine j_icmp_eq (tgt := 58) dX11_taking_50 rfl (fun c3 => ?_) (fun c3 => ?_)
      · exact absurd c3 (by decide)
      · refine j_iload_n 1 dX11_taking_53 rfl ?_
        refine j_iconst 5 dX11_taking_54 ic_5 ?_
        refine j_icmp_ne (tgt := 62) dX11_taking_55 rfl (fun c4 => ?_) (fun c4 => ?_)
        · refine j_iconst 0 dX11_taking_62 ic_0 ?_
          refine j_istore (L' := [(5, .int 0), (4, .int x), (3, .int 0), (0, .ref 0), (1, .int (nI i)), (2, .int x)]) dX11_taking_63 (by decide) rfl ?_
          refine j_iload 0 dX11_taking_65 rfl ?_
          refine j_if_eq (tgt := 76) dX11_taking_67 rfl (fun c5 => ?_) (fun c5 => ?_)
          · refine j_aload_n 3 dX11_taking_76 rfl ?_
            refine j_bipush 11 dX11_taking_77 bp_11 ?_
            refine j_callV (kc := 0) (ks := 0) (a := 0) (b := 0) (d' := d) (As := [.int 11]) dX11_taking_79 kX11_321 rfl (shM hM sgM_0) (by omega) rfl rfl rfl (Nat.le_of_ble_eq_true rfl) (Nat.le_of_ble_eq_true rfl) (T_X11_body cv (q := q) hq (by omega) 11) (kk_ev (fun M6 hM7 => ?_))
            have cv8 : MV M6 (vZ Z (noteV Z.2.2.2.2 11)) := hM7
            have hq9 : (noteV Z.2.2.2.2 11) 10 = nI (q + 1) := nt_10 hq
            refine j_aload_n 3 dX11_taking_82 rfl ?_
            refine j_iload_n 4 dX11_taking_83 rfl ?_
            refine j_iload 1 dX11_taking_84 rfl ?_
            refine j_callV (kc := 0) (ks := 0) (a := 0) (b := 0) (d' := (d + 1)) (As := [.int (nI i), .int x]) dX11_taking_86 kX11_325 rfl (shM cv8.1 sgM_0) (by omega) rfl rfl rfl (Nat.le_of_ble_eq_true rfl) (Nat.le_of_ble_eq_true rfl) (T_st0 (Z := (vZ Z (noteV Z.2.2.2.2 11))) cv8 (q := (q + 1)) hq9 (by omega) i hi hi16 x hkk) (kk_e (fun M10 hM11 => ?_))
            have cv12 : MV M10 (vZ Z (noteVL (noteV Z.2.2.2.2 11) (stL 0))) := hM11
            have hq13 : (noteVL (noteV Z.2.2.2.2 11) (stL 0)) 10 = nI ((q + 1) + (stL 0).length) := nl_10 _ hq9
            refine j_iconst 2 dX11_taking_89 ic_2 ?_
            refine j_imul dX11_taking_90 ?_
            refine j_istore (L' := [(6, .int ((stV 0 (Z.1 11 i) (nI i) x) * 2)), (5, .int 0), (4, .int x), (3, .int 0), (0, .ref 0), (1, .int (nI i)), (2, .int x)]) dX11_taking_91 (by decide) rfl ?_
            refine j_iload 1 dX11_taking_93 rfl ?_
            refine j_if_eq (tgt := 105) dX11_taking_95 rfl (fun c14 => ?_) (fun c14 => ?_)
            · refine j_iload 0 dX11_taking_105 rfl ?_
              refine j_iret dX11_taking_107 rfl ?_
              have hV : noteVL Z.2.2.2.2 (tkL 0) = (noteVL (noteV Z.2.2.2.2 11) (stL 0)) := rfl
              have hv : tkV 0 (Z.1 11 i) (nI i) x = ((stV 0 (Z.1 11 i) (nI i) x) * 2) := rfl
              rw [hV, hv] at hQ
              exact hQ _ _ ⟨rfl, cv12⟩
            · exact absurd c14 (by decide)
          · exact absurd c5 (by decide)
        · exact absurd c4 (by decide)
    · exact absurd c2 (by decide)
  · exact absurd c1 (by decide)
set_option maxRecDepth 20000 in
set_option maxHeartbeats 4000000 in
theorem T_tk1 {d : Nat} {M : jk_M} {Z : ZS} (cv : MV M Z) {q : Nat} (hq : Z.2.2.2.2 10 = nI q) (hq9 : q < 80) (i : Nat) (hi : i < nT Z.1) (hi16 : i < 16) (x : Int32) (hkk : Z.1 10 i = 1) : J Fr_X11_taking (d + 2) 0 0 0 [(0, .ref 0), (1, .int (nI i)), (2, .int x)] [] M (jk_ex (some (.int (tkV 1 (Z.1 11 i) (nI i) x))) (fun M1 => MV M1 (vZ Z (noteVL Z.2.2.2.2 (tkL 1))))) := by
  refine j_post (fun Q hQ => ?_)
  have hM := cv.1
  have hl3 := st_len 1
  have hl5 := tk_len 1
  refine j_aload_n 0 dX11_taking_0 rfl ?_
  refine j_getr (q := 2) dX11_taking_1 fX11_29 (shM hM sgM_0) rfl (rfM hM rfM_0_10) ?_
  refine j_iload_n 1 dX11_taking_4 rfl ?_
  refine j_ialdN i dX11_taking_5 (shM hM sgM_2) (by omega) (by omega) ?_
  refine j_topi 1 ((mr_arT cv.2.1 (k := 0) hi (by decide)).trans hkk) ?_
  refine j_istore_n (L' := [(3, .int 1), (0, .ref 0), (1, .int (nI i)), (2, .int x)]) dX11_taking_6 (by decide) rfl ?_
  refine j_iload_n 3 dX11_taking_7 rfl ?_
  refine j_istore (L' := [(4, .int x), (3, .int 1), (0, .ref 0), (1, .int (nI i)), (2, .int x)]) dX11_taking_8 (by decide) rfl ?_
  refine j_iload_n 1 dX11_taking_10 rfl ?_
  refine j_bipush 6 dX11_taking_11 bp_6 ?_
  refine j_icmp_ne (tgt := 32) dX11_taking_13 rfl (fun c1 => ?_) (fun c1 => ?_)
  · refine j_iload_n 1 dX11_taking_32 rfl ?_
    refine j_iconst 3 dX11_taking_33 ic_3 ?_
    refine j_icmp_ne (tgt := 48) dX11_taking_34 rfl (fun c2 => ?_) (fun c2 => ?_)
    · refine j_iload_n 1 dX11_taking_48 rfl ?_
      refine j_iconst 2 dX11_taking_49 ic_2 ?_
      refine j_icmp_eq (tgt := 58) dX11_taking_50 rfl (fun c3 => ?_) (fun c3 => ?_)
      · exact absurd c3 (by decide)
      · refine j_iload_n 1 dX11_taking_53 rfl ?_
        refine j_iconst 5 dX11_taking_54 ic_5 ?_
        refine j_icmp_ne (tgt := 62) dX11_taking_55 rfl (fun c4 => ?_) (fun c4 => ?_)
        · refine j_iconst 0 dX11_taking_62 ic_0 ?_
          refine j_istore (L' := [(5, .int 0), (4, .int x), (3, .int 1), (0, .ref 0), (1, .int (nI i)), (2, .int x)]) dX11_taking_63 (by decide) rfl ?_
          refine j_iload 0 dX11_taking_65 rfl ?_
          refine j_if_eq (tgt := 76) dX11_taking_67 rfl (fun c5 => ?_) (fun c5 => ?_)
          · refine j_aload_n 3 dX11_taking_76 rfl ?_
            refine j_bipush 11 dX11_taking_77 bp_11 ?_
            refine j_callV (kc := 0) (ks := 0) (a := 0) (b := 0) (d' := d) (As := [.int 11]) dX11_taking_79 kX11_321 rfl (shM hM sgM_0) (by omega) rfl rfl rfl (Nat.le_of_ble_eq_true rfl) (Nat.le_of_ble_eq_true rfl) (T_X11_body cv (q := q) hq (by omega) 11) (kk_ev (fun M6 hM7 => ?_))
            have cv8 : MV M6 (vZ Z (noteV Z.2.2.2.2 11)) := hM7
            have hq9 : (noteV Z.2.2.2.2 11) 10 = nI (q + 1) := nt_10 hq
            refine j_aload_n 3 dX11_taking_82 rfl ?_
            refine j_iload_n 4 dX11_taking_83 rfl ?_
            refine j_iload 1 dX11_taking_84 rfl ?_
            refine j_callV (kc := 0) (ks := 0) (a := 0) (b := 0) (d' := (d + 1)) (As := [.int (nI i), .int x]) dX11_taking_86 kX11_325 rfl (shM cv8.1 sgM_0) (by omega) rfl rfl rfl (Nat.le_of_ble_eq_true rfl) (Nat.le_of_ble_eq_true rfl) (T_st1 (Z := (vZ Z (noteV Z.2.2.2.2 11))) cv8 (q := (q + 1)) hq9 (by omega) i hi hi16 x hkk) (kk_e (fun M10 hM11 => ?_))
            have cv12 : MV M10 (vZ Z (noteVL (noteV Z.2.2.2.2 11) (stL 1))) := hM11
            have hq13 : (noteVL (noteV Z.2.2.2.2 11) (stL 1)) 10 = nI ((q + 1) + (stL 1).length) := nl_10 _ hq9
            refine j_iconst 2 dX11_taking_89 ic_2 ?_
            refine j_imul dX11_taking_90 ?_
            refine j_istore (L' := [(6, .int ((stV 1 (Z.1 11 i) (nI i) x) * 2)), (5, .int 0), (4, .int x), (3, .int 1), (0, .ref 0), (1, .int (nI i)), (2, .int x)]) dX11_taking_91 (by decide) rfl ?_
            refine j_iload 1 dX11_taking_93 rfl ?_
            refine j_if_eq (tgt := 105) dX11_taking_95 rfl (fun c14 => ?_) (fun c14 => ?_)
            · refine j_iload 0 dX11_taking_105 rfl ?_
              refine j_iret dX11_taking_107 rfl ?_
              have hV : noteVL Z.2.2.2.2 (tkL 1) = (noteVL (noteV Z.2.2.2.2 11) (stL 1)) := rfl
              have hv : tkV 1 (Z.1 11 i) (nI i) x = ((stV 1 (Z.1 11 i) (nI i) x) * 2) := rfl
              rw [hV, hv] at hQ
              exact hQ _ _ ⟨rfl, cv12⟩
            · exact absurd c14 (by decide)
          · exact absurd c5 (by decide)
        · exact absurd c4 (by decide)
    · exact absurd c2 (by decide)
  · exact absurd c1 (by decide)
set_option maxRecDepth 20000 in
set_option maxHeartbeats 4000000 in
theorem T_tk2 {d : Nat} {M : jk_M} {Z : ZS} (cv : MV M Z) {q : Nat} (hq : Z.2.2.2.2 10 = nI q) (hq9 : q < 80) (i : Nat) (hi : i < nT Z.1) (hi16 : i < 16) (x : Int32) (hkk : Z.1 10 i = 2) : J Fr_X11_taking (d + 2) 0 0 0 [(0, .ref 0), (1, .int (nI i)), (2, .int x)] [] M (jk_ex (some (.int (tkV 2 (Z.1 11 i) (nI i) x))) (fun M1 => MV M1 (vZ Z (noteVL Z.2.2.2.2 (tkL 2))))) := by
  refine j_post (fun Q hQ => ?_)
  have hM := cv.1
  have hl3 := st_len 2
  have hl5 := tk_len 2
  refine j_aload_n 0 dX11_taking_0 rfl ?_
  refine j_getr (q := 2) dX11_taking_1 fX11_29 (shM hM sgM_0) rfl (rfM hM rfM_0_10) ?_
  refine j_iload_n 1 dX11_taking_4 rfl ?_
  refine j_ialdN i dX11_taking_5 (shM hM sgM_2) (by omega) (by omega) ?_
  refine j_topi 2 ((mr_arT cv.2.1 (k := 0) hi (by decide)).trans hkk) ?_
  refine j_istore_n (L' := [(3, .int 2), (0, .ref 0), (1, .int (nI i)), (2, .int x)]) dX11_taking_6 (by decide) rfl ?_
  refine j_iload_n 3 dX11_taking_7 rfl ?_
  refine j_istore (L' := [(4, .int x), (3, .int 2), (0, .ref 0), (1, .int (nI i)), (2, .int x)]) dX11_taking_8 (by decide) rfl ?_
  refine j_iload_n 1 dX11_taking_10 rfl ?_
  refine j_bipush 6 dX11_taking_11 bp_6 ?_
  refine j_icmp_ne (tgt := 32) dX11_taking_13 rfl (fun c1 => ?_) (fun c1 => ?_)
  · refine j_iload_n 1 dX11_taking_32 rfl ?_
    refine j_iconst 3 dX11_taking_33 ic_3 ?_
    refine j_icmp_ne (tgt := 48) dX11_taking_34 rfl (fun c2 => ?_) (fun c2 => ?_)
    · refine j_iload_n 1 dX11_taking_48 rfl ?_
      refine j_iconst 2 dX11_taking_49 ic_2 ?_
      refine j_icmp_eq (tgt := 58) dX11_taking_50 rfl (fun c3 => ?_) (fun c3 => ?_)
      · refine j_iconst 1 dX11_taking_58 ic_1 ?_
        refine j_goto (tgt := 63) dX11_taking_59 rfl ?_
        refine j_istore (L' := [(5, .int 1), (4, .int x), (3, .int 2), (0, .ref 0), (1, .int (nI i)), (2, .int x)]) dX11_taking_63 (by decide) rfl ?_
        refine j_iload 0 dX11_taking_65 rfl ?_
        refine j_if_eq (tgt := 76) dX11_taking_67 rfl (fun c4 => ?_) (fun c4 => ?_)
        · exact absurd c4 (by decide)
        · refine j_aload_n 3 dX11_taking_70 rfl ?_
          refine j_bipush 30 dX11_taking_71 bp_30 ?_
          refine j_callV (kc := 0) (ks := 0) (a := 0) (b := 0) (d' := d) (As := [.int 30]) dX11_taking_73 kX11_321 rfl (shM hM sgM_0) (by omega) rfl rfl rfl (Nat.le_of_ble_eq_true rfl) (Nat.le_of_ble_eq_true rfl) (T_X11_body cv (q := q) hq (by omega) 30) (kk_ev (fun M5 hM6 => ?_))
          have cv7 : MV M5 (vZ Z (noteV Z.2.2.2.2 30)) := hM6
          have hq8 : (noteV Z.2.2.2.2 30) 10 = nI (q + 1) := nt_10 hq
          refine j_aload_n 3 dX11_taking_76 rfl ?_
          refine j_bipush 11 dX11_taking_77 bp_11 ?_
          refine j_callV (kc := 0) (ks := 0) (a := 0) (b := 0) (d' := d) (As := [.int 11]) dX11_taking_79 kX11_321 rfl (shM cv7.1 sgM_0) (by omega) rfl rfl rfl (Nat.le_of_ble_eq_true rfl) (Nat.le_of_ble_eq_true rfl) (T_X11_body cv7 (q := (q + 1)) hq8 (by omega) 11) (kk_ev (fun M9 hM10 => ?_))
          have cv11 : MV M9 (vZ Z (noteV (noteV Z.2.2.2.2 30) 11)) := hM10
          have hq12 : (noteV (noteV Z.2.2.2.2 30) 11) 10 = nI ((q + 1) + 1) := nt_10 hq8
          refine j_aload_n 3 dX11_taking_82 rfl ?_
          refine j_iload_n 4 dX11_taking_83 rfl ?_
          refine j_iload 1 dX11_taking_84 rfl ?_
          refine j_callV (kc := 0) (ks := 0) (a := 0) (b := 0) (d' := (d + 1)) (As := [.int (nI i), .int x]) dX11_taking_86 kX11_325 rfl (shM cv11.1 sgM_0) (by omega) rfl rfl rfl (Nat.le_of_ble_eq_true rfl) (Nat.le_of_ble_eq_true rfl) (T_st2 (Z := (vZ Z (noteV (noteV Z.2.2.2.2 30) 11))) cv11 (q := ((q + 1) + 1)) hq12 (by omega) i hi hi16 x hkk) (kk_e (fun M13 hM14 => ?_))
          have cv15 : MV M13 (vZ Z (noteVL (noteV (noteV Z.2.2.2.2 30) 11) (stL 2))) := hM14
          have hq16 : (noteVL (noteV (noteV Z.2.2.2.2 30) 11) (stL 2)) 10 = nI (((q + 1) + 1) + (stL 2).length) := nl_10 _ hq12
          refine j_iconst 2 dX11_taking_89 ic_2 ?_
          refine j_imul dX11_taking_90 ?_
          refine j_istore (L' := [(6, .int ((stV 2 (Z.1 11 i) (nI i) x) * 2)), (5, .int 1), (4, .int x), (3, .int 2), (0, .ref 0), (1, .int (nI i)), (2, .int x)]) dX11_taking_91 (by decide) rfl ?_
          refine j_iload 1 dX11_taking_93 rfl ?_
          refine j_if_eq (tgt := 105) dX11_taking_95 rfl (fun c17 => ?_) (fun c17 => ?_)
          · exact absurd c17 (by decide)
          · refine j_iload 0 dX11_taking_98 rfl ?_
            refine j_iconst 3 dX11_taking_100 ic_3 ?_
            refine j_imul dX11_taking_101 ?_
            refine j_goto (tgt := 107) dX11_taking_102 rfl ?_
            refine j_iret dX11_taking_107 rfl ?_
            have hV : noteVL Z.2.2.2.2 (tkL 2) = (noteVL (noteV (noteV Z.2.2.2.2 30) 11) (stL 2)) := rfl
            have hv : tkV 2 (Z.1 11 i) (nI i) x = (((stV 2 (Z.1 11 i) (nI i) x) * 2) * 3) := rfl
            rw [hV, hv] at hQ
            exact hQ _ _ ⟨rfl, cv15⟩
      · exact absurd c3 (by decide)
    · exact absurd c2 (by decide)
  · exact absurd c1 (by decide)
set_option maxRecDepth 20000 in
set_option maxHeartbeats 4000000 in
theorem T_tk3 {d : Nat} {M : jk_M} {Z : ZS} (cv : MV M Z) {q : Nat} (hq : Z.2.2.2.2 10 = nI q) (hq9 : q < 80) (i : Nat) (hi : i < nT Z.1) (hi16 : i < 16) (x : Int32) (hkk : Z.1 10 i = 3) : J Fr_X11_taking (d + 2) 0 0 0 [(0, .ref 0), (1, .int (nI i)), (2, .int x)] [] M (jk_ex (some (.int (tkV 3 (Z.1 11 i) (nI i) x))) (fun M1 => MV M1 (vZ Z (noteVL Z.2.2.2.2 (tkL 3))))) := by
  refine j_post (fun Q hQ => ?_)
  have hM := cv.1
  have hl3 := st_len 3
  have hl5 := tk_len 3
  refine j_aload_n 0 dX11_taking_0 rfl ?_
  refine j_getr (q := 2) dX11_taking_1 fX11_29 (shM hM sgM_0) rfl (rfM hM rfM_0_10) ?_
  refine j_iload_n 1 dX11_taking_4 rfl ?_
  refine j_ialdN i dX11_taking_5 (shM hM sgM_2) (by omega) (by omega) ?_
  refine j_topi 3 ((mr_arT cv.2.1 (k := 0) hi (by decide)).trans hkk) ?_
  refine j_istore_n (L' := [(3, .int 3), (0, .ref 0), (1, .int (nI i)), (2, .int x)]) dX11_taking_6 (by decide) rfl ?_
  refine j_iload_n 3 dX11_taking_7 rfl ?_
  refine j_istore (L' := [(4, .int x), (3, .int 3), (0, .ref 0), (1, .int (nI i)), (2, .int x)]) dX11_taking_8 (by decide) rfl ?_
  refine j_iload_n 1 dX11_taking_10 rfl ?_
  refine j_bipush 6 dX11_taking_11 bp_6 ?_
  refine j_icmp_ne (tgt := 32) dX11_taking_13 rfl (fun c1 => ?_) (fun c1 => ?_)
  · refine j_iload_n 1 dX11_taking_32 rfl ?_
    refine j_iconst 3 dX11_taking_33 ic_3 ?_
    refine j_icmp_ne (tgt := 48) dX11_taking_34 rfl (fun c2 => ?_) (fun c2 => ?_)
    · exact absurd c2 (by decide)
    · refine j_aload_n 2 dX11_taking_37 rfl ?_
      refine j_bipush 40 dX11_taking_38 bp_40 ?_
      refine j_callV (kc := 0) (ks := 0) (a := 0) (b := 0) (d' := d) (As := [.int 40]) dX11_taking_40 kX11_321 rfl (shM hM sgM_0) (by omega) rfl rfl rfl (Nat.le_of_ble_eq_true rfl) (Nat.le_of_ble_eq_true rfl) (T_X11_body cv (q := q) hq (by omega) 40) (kk_ev (fun M3 hM4 => ?_))
      have cv5 : MV M3 (vZ Z (noteV Z.2.2.2.2 40)) := hM4
      have hq6 : (noteV Z.2.2.2.2 40) 10 = nI (q + 1) := nt_10 hq
      refine j_iload_n 4 dX11_taking_43 rfl ?_
      refine j_iconst 1 dX11_taking_44 ic_1 ?_
      refine j_iadd dX11_taking_45 ?_
      refine j_istore (L' := [(4, .int (x + 1)), (3, .int 3), (0, .ref 0), (1, .int (nI i)), (2, .int x)]) dX11_taking_46 (by decide) rfl ?_
      refine j_iload_n 1 dX11_taking_48 rfl ?_
      refine j_iconst 2 dX11_taking_49 ic_2 ?_
      refine j_icmp_eq (tgt := 58) dX11_taking_50 rfl (fun c7 => ?_) (fun c7 => ?_)
      · exact absurd c7 (by decide)
      · refine j_iload_n 1 dX11_taking_53 rfl ?_
        refine j_iconst 5 dX11_taking_54 ic_5 ?_
        refine j_icmp_ne (tgt := 62) dX11_taking_55 rfl (fun c8 => ?_) (fun c8 => ?_)
        · refine j_iconst 0 dX11_taking_62 ic_0 ?_
          refine j_istore (L' := [(5, .int 0), (4, .int (x + 1)), (3, .int 3), (0, .ref 0), (1, .int (nI i)), (2, .int x)]) dX11_taking_63 (by decide) rfl ?_
          refine j_iload 0 dX11_taking_65 rfl ?_
          refine j_if_eq (tgt := 76) dX11_taking_67 rfl (fun c9 => ?_) (fun c9 => ?_)
          · refine j_aload_n 3 dX11_taking_76 rfl ?_
            refine j_bipush 11 dX11_taking_77 bp_11 ?_
            refine j_callV (kc := 0) (ks := 0) (a := 0) (b := 0) (d' := d) (As := [.int 11]) dX11_taking_79 kX11_321 rfl (shM cv5.1 sgM_0) (by omega) rfl rfl rfl (Nat.le_of_ble_eq_true rfl) (Nat.le_of_ble_eq_true rfl) (T_X11_body cv5 (q := (q + 1)) hq6 (by omega) 11) (kk_ev (fun M10 hM11 => ?_))
            have cv12 : MV M10 (vZ Z (noteV (noteV Z.2.2.2.2 40) 11)) := hM11
            have hq13 : (noteV (noteV Z.2.2.2.2 40) 11) 10 = nI ((q + 1) + 1) := nt_10 hq6
            refine j_aload_n 3 dX11_taking_82 rfl ?_
            refine j_iload_n 4 dX11_taking_83 rfl ?_
            refine j_iload 1 dX11_taking_84 rfl ?_
            refine j_callV (kc := 0) (ks := 0) (a := 0) (b := 0) (d' := (d + 1)) (As := [.int (nI i), .int (x + 1)]) dX11_taking_86 kX11_325 rfl (shM cv12.1 sgM_0) (by omega) rfl rfl rfl (Nat.le_of_ble_eq_true rfl) (Nat.le_of_ble_eq_true rfl) (T_st3 (Z := (vZ Z (noteV (noteV Z.2.2.2.2 40) 11))) cv12 (q := ((q + 1) + 1)) hq13 (by omega) i hi hi16 (x + 1) hkk) (kk_e (fun M14 hM15 => ?_))
            have cv16 : MV M14 (vZ Z (noteVL (noteV (noteV Z.2.2.2.2 40) 11) (stL 3))) := hM15
            have hq17 : (noteVL (noteV (noteV Z.2.2.2.2 40) 11) (stL 3)) 10 = nI (((q + 1) + 1) + (stL 3).length) := nl_10 _ hq13
            refine j_iconst 2 dX11_taking_89 ic_2 ?_
            refine j_imul dX11_taking_90 ?_
            refine j_istore (L' := [(6, .int ((stV 3 (Z.1 11 i) (nI i) (x + 1)) * 2)), (5, .int 0), (4, .int (x + 1)), (3, .int 3), (0, .ref 0), (1, .int (nI i)), (2, .int x)]) dX11_taking_91 (by decide) rfl ?_
            refine j_iload 1 dX11_taking_93 rfl ?_
            refine j_if_eq (tgt := 105) dX11_taking_95 rfl (fun c18 => ?_) (fun c18 => ?_)
            · refine j_iload 0 dX11_taking_105 rfl ?_
              refine j_iret dX11_taking_107 rfl ?_
              have hV : noteVL Z.2.2.2.2 (tkL 3) = (noteVL (noteV (noteV Z.2.2.2.2 40) 11) (stL 3)) := rfl
              have hv : tkV 3 (Z.1 11 i) (nI i) x = ((stV 3 (Z.1 11 i) (nI i) (x + 1)) * 2) := rfl
              rw [hV, hv] at hQ
              exact hQ _ _ ⟨rfl, cv16⟩
            · exact absurd c18 (by decide)
          · exact absurd c9 (by decide)
        · exact absurd c8 (by decide)
  · exact absurd c1 (by decide)
set_option maxRecDepth 20000 in
set_option maxHeartbeats 4000000 in
theorem T_tk4 {d : Nat} {M : jk_M} {Z : ZS} (cv : MV M Z) {q : Nat} (hq : Z.2.2.2.2 10 = nI q) (hq9 : q < 80) (i : Nat) (hi : i < nT Z.1) (hi16 : i < 16) (x : Int32) (hkk : Z.1 10 i = 4) : J Fr_X11_taking (d + 2) 0 0 0 [(0, .ref 0), (1, .int (nI i)), (2, .int x)] [] M (jk_ex (some (.int (tkV 4 (Z.1 11 i) (nI i) x))) (fun M1 => MV M1 (vZ Z (noteVL Z.2.2.2.2 (tkL 4))))) := by
  refine j_post (fun Q hQ => ?_)
  have hM := cv.1
  have hl3 := st_len 4
  have hl5 := tk_len 4
  refine j_aload_n 0 dX11_taking_0 rfl ?_
  refine j_getr (q := 2) dX11_taking_1 fX11_29 (shM hM sgM_0) rfl (rfM hM rfM_0_10) ?_
  refine j_iload_n 1 dX11_taking_4 rfl ?_
  refine j_ialdN i dX11_taking_5 (shM hM sgM_2) (by omega) (by omega) ?_
  refine j_topi 4 ((mr_arT cv.2.1 (k := 0) hi (by decide)).trans hkk) ?_
  refine j_istore_n (L' := [(3, .int 4), (0, .ref 0), (1, .int (nI i)), (2, .int x)]) dX11_taking_6 (by decide) rfl ?_
  refine j_iload_n 3 dX11_taking_7 rfl ?_
  refine j_istore (L' := [(4, .int x), (3, .int 4), (0, .ref 0), (1, .int (nI i)), (2, .int x)]) dX11_taking_8 (by decide) rfl ?_
  refine j_iload_n 1 dX11_taking_10 rfl ?_
  refine j_bipush 6 dX11_taking_11 bp_6 ?_
  refine j_icmp_ne (tgt := 32) dX11_taking_13 rfl (fun c1 => ?_) (fun c1 => ?_)
  · refine j_iload_n 1 dX11_taking_32 rfl ?_
    refine j_iconst 3 dX11_taking_33 ic_3 ?_
    refine j_icmp_ne (tgt := 48) dX11_taking_34 rfl (fun c2 => ?_) (fun c2 => ?_)
    · refine j_iload_n 1 dX11_taking_48 rfl ?_
      refine j_iconst 2 dX11_taking_49 ic_2 ?_
      refine j_icmp_eq (tgt := 58) dX11_taking_50 rfl (fun c3 => ?_) (fun c3 => ?_)
      · exact absurd c3 (by decide)
      · refine j_iload_n 1 dX11_taking_53 rfl ?_
        refine j_iconst 5 dX11_taking_54 ic_5 ?_
        refine j_icmp_ne (tgt := 62) dX11_taking_55 rfl (fun c4 => ?_) (fun c4 => ?_)
        · refine j_iconst 0 dX11_taking_62 ic_0 ?_
          refine j_istore (L' := [(5, .int 0), (4, .int x), (3, .int 4), (0, .ref 0), (1, .int (nI i)), (2, .int x)]) dX11_taking_63 (by decide) rfl ?_
          refine j_iload 0 dX11_taking_65 rfl ?_
          refine j_if_eq (tgt := 76) dX11_taking_67 rfl (fun c5 => ?_) (fun c5 => ?_)
          · refine j_aload_n 3 dX11_taking_76 rfl ?_
            refine j_bipush 11 dX11_taking_77 bp_11 ?_
            refine j_callV (kc := 0) (ks := 0) (a := 0) (b := 0) (d' := d) (As := [.int 11]) dX11_taking_79 kX11_321 rfl (shM hM sgM_0) (by omega) rfl rfl rfl (Nat.le_of_ble_eq_true rfl) (Nat.le_of_ble_eq_true rfl) (T_X11_body cv (q := q) hq (by omega) 11) (kk_ev (fun M6 hM7 => ?_))
            have cv8 : MV M6 (vZ Z (noteV Z.2.2.2.2 11)) := hM7
            have hq9 : (noteV Z.2.2.2.2 11) 10 = nI (q + 1) := nt_10 hq
            refine j_aload_n 3 dX11_taking_82 rfl ?_
            refine j_iload_n 4 dX11_taking_83 rfl ?_
            refine j_iload 1 dX11_taking_84 rfl ?_
            refine j_callV (kc := 0) (ks := 0) (a := 0) (b := 0) (d' := (d + 1)) (As := [.int (nI i), .int x]) dX11_taking_86 kX11_325 rfl (shM cv8.1 sgM_0) (by omega) rfl rfl rfl (Nat.le_of_ble_eq_true rfl) (Nat.le_of_ble_eq_true rfl) (T_st4 (Z := (vZ Z (noteV Z.2.2.2.2 11))) cv8 (q := (q + 1)) hq9 (by omega) i hi hi16 x hkk) (kk_e (fun M10 hM11 => ?_))
            have cv12 : MV M10 (vZ Z (noteVL (noteV Z.2.2.2.2 11) (stL 4))) := hM11
            have hq13 : (noteVL (noteV Z.2.2.2.2 11) (stL 4)) 10 = nI ((q + 1) + (stL 4).length) := nl_10 _ hq9
            refine j_iconst 2 dX11_taking_89 ic_2 ?_
            refine j_imul dX11_taking_90 ?_
            refine j_istore (L' := [(6, .int ((stV 4 (Z.1 11 i) (nI i) x) * 2)), (5, .int 0), (4, .int x), (3, .int 4), (0, .ref 0), (1, .int (nI i)), (2, .int x)]) dX11_taking_91 (by decide) rfl ?_
            refine j_iload 1 dX11_taking_93 rfl ?_
            refine j_if_eq (tgt := 105) dX11_taking_95 rfl (fun c14 => ?_) (fun c14 => ?_)
            · refine j_iload 0 dX11_taking_105 rfl ?_
              refine j_iret dX11_taking_107 rfl ?_
              have hV : noteVL Z.2.2.2.2 (tkL 4) = (noteVL (noteV Z.2.2.2.2 11) (stL 4)) := rfl
              have hv : tkV 4 (Z.1 11 i) (nI i) x = ((stV 4 (Z.1 11 i) (nI i) x) * 2) := rfl
              rw [hV, hv] at hQ
              exact hQ _ _ ⟨rfl, cv12⟩
            · exact absurd c14 (by decide)
          · exact absurd c5 (by decide)
        · exact absurd c4 (by decide)
    · exact absurd c2 (by decide)
  · exact absurd c1 (by decide)
set_option maxRecDepth 20000 in
set_option maxHeartbeats 4000000 in
theorem T_tk5 {d : Nat} {M : jk_M} {Z : ZS} (cv : MV M Z) {q : Nat} (hq : Z.2.2.2.2 10 = nI q) (hq9 : q < 80) (i : Nat) (hi : i < nT Z.1) (hi16 : i < 16) (x : Int32) (hkk : Z.1 10 i = 5) : J Fr_X11_taking (d + 2) 0 0 0 [(0, .ref 0), (1, .int (nI i)), (2, .int x)] [] M (jk_ex (some (.int (tkV 5 (Z.1 11 i) (nI i) x))) (fun M1 => MV M1 (vZ Z (noteVL Z.2.2.2.2 (tkL 5))))) := by
  refine j_post (fun Q hQ => ?_)
  have hM := cv.1
  have hl3 := st_len 5
  have hl5 := tk_len 5
  refine j_aload_n 0 dX11_taking_0 rfl ?_
  refine j_getr (q := 2) dX11_taking_1 fX11_29 (shM hM sgM_0) rfl (rfM hM rfM_0_10) ?_
  refine j_iload_n 1 dX11_taking_4 rfl ?_
  refine j_ialdN i dX11_taking_5 (shM hM sgM_2) (by omega) (by omega) ?_
  refine j_topi 5 ((mr_arT cv.2.1 (k := 0) hi (by decide)).trans hkk) ?_
  refine j_istore_n (L' := [(3, .int 5), (0, .ref 0), (1, .int (nI i)), (2, .int x)]) dX11_taking_6 (by decide) rfl ?_
  refine j_iload_n 3 dX11_taking_7 rfl ?_
  refine j_istore (L' := [(4, .int x), (3, .int 5), (0, .ref 0), (1, .int (nI i)), (2, .int x)]) dX11_taking_8 (by decide) rfl ?_
  refine j_iload_n 1 dX11_taking_10 rfl ?_
  refine j_bipush 6 dX11_taking_11 bp_6 ?_
  refine j_icmp_ne (tgt := 32) dX11_taking_13 rfl (fun c1 => ?_) (fun c1 => ?_)
  · refine j_iload_n 1 dX11_taking_32 rfl ?_
    refine j_iconst 3 dX11_taking_33 ic_3 ?_
    refine j_icmp_ne (tgt := 48) dX11_taking_34 rfl (fun c2 => ?_) (fun c2 => ?_)
    · refine j_iload_n 1 dX11_taking_48 rfl ?_
      refine j_iconst 2 dX11_taking_49 ic_2 ?_
      refine j_icmp_eq (tgt := 58) dX11_taking_50 rfl (fun c3 => ?_) (fun c3 => ?_)
      · exact absurd c3 (by decide)
      · refine j_iload_n 1 dX11_taking_53 rfl ?_
        refine j_iconst 5 dX11_taking_54 ic_5 ?_
        refine j_icmp_ne (tgt := 62) dX11_taking_55 rfl (fun c4 => ?_) (fun c4 => ?_)
        · exact absurd c4 (by decide)
        · refine j_iconst 1 dX11_taking_58 ic_1 ?_
          refine j_goto (tgt := 63) dX11_taking_59 rfl ?_
          refine j_istore (L' := [(5, .int 1), (4, .int x), (3, .int 5), (0, .ref 0), (1, .int (nI i)), (2, .int x)]) dX11_taking_63 (by decide) rfl ?_
          refine j_iload 0 dX11_taking_65 rfl ?_
          refine j_if_eq (tgt := 76) dX11_taking_67 rfl (fun c5 => ?_) (fun c5 => ?_)
          · exact absurd c5 (by decide)
          · refine j_aload_n 3 dX11_taking_70 rfl ?_
            refine j_bipush 30 dX11_taking_71 bp_30 ?_
            refine j_callV (kc := 0) (ks := 0) (a := 0) (b := 0) (d' := d) (As := [.int 30]) dX11_taking_73 kX11_321 rfl (shM hM sgM_0) (by omega) rfl rfl rfl (Nat.le_of_ble_eq_true rfl) (Nat.le_of_ble_eq_true rfl) (T_X11_body cv (q := q) hq (by omega) 30) (kk_ev (fun M6 hM7 => ?_))
            have cv8 : MV M6 (vZ Z (noteV Z.2.2.2.2 30)) := hM7
            have hq9 : (noteV Z.2.2.2.2 30) 10 = nI (q + 1) := nt_10 hq
            refine j_aload_n 3 dX11_taking_76 rfl ?_
            refine j_bipush 11 dX11_taking_77 bp_11 ?_
            refine j_callV (kc := 0) (ks := 0) (a := 0) (b := 0) (d' := d) (As := [.int 11]) dX11_taking_79 kX11_321 rfl (shM cv8.1 sgM_0) (by omega) rfl rfl rfl (Nat.le_of_ble_eq_true rfl) (Nat.le_of_ble_eq_true rfl) (T_X11_body cv8 (q := (q + 1)) hq9 (by omega) 11) (kk_ev (fun M10 hM11 => ?_))
            have cv12 : MV M10 (vZ Z (noteV (noteV Z.2.2.2.2 30) 11)) := hM11
            have hq13 : (noteV (noteV Z.2.2.2.2 30) 11) 10 = nI ((q + 1) + 1) := nt_10 hq9
            refine j_aload_n 3 dX11_taking_82 rfl ?_
            refine j_iload_n 4 dX11_taking_83 rfl ?_
            refine j_iload 1 dX11_taking_84 rfl ?_
            refine j_callV (kc := 0) (ks := 0) (a := 0) (b := 0) (d' := (d + 1)) (As := [.int (nI i), .int x]) dX11_taking_86 kX11_325 rfl (shM cv12.1 sgM_0) (by omega) rfl rfl rfl (Nat.le_of_ble_eq_true rfl) (Nat.le_of_ble_eq_true rfl) (T_st5 (Z := (vZ Z (noteV (noteV Z.2.2.2.2 30) 11))) cv12 (q := ((q + 1) + 1)) hq13 (by omega) i hi hi16 x hkk) (kk_e (fun M14 hM15 => ?_))
            have cv16 : MV M14 (vZ Z (noteVL (noteV (noteV Z.2.2.2.2 30) 11) (stL 5))) := hM15
            have hq17 : (noteVL (noteV (noteV Z.2.2.2.2 30) 11) (stL 5)) 10 = nI (((q + 1) + 1) + (stL 5).length) := nl_10 _ hq13
            refine j_iconst 2 dX11_taking_89 ic_2 ?_
            refine j_imul dX11_taking_90 ?_
            refine j_istore (L' := [(6, .int ((stV 5 (Z.1 11 i) (nI i) x) * 2)), (5, .int 1), (4, .int x), (3, .int 5), (0, .ref 0), (1, .int (nI i)), (2, .int x)]) dX11_taking_91 (by decide) rfl ?_
            refine j_iload 1 dX11_taking_93 rfl ?_
            refine j_if_eq (tgt := 105) dX11_taking_95 rfl (fun c18 => ?_) (fun c18 => ?_)
            · exact absurd c18 (by decide)
            · refine j_iload 0 dX11_taking_98 rfl ?_
              refine j_iconst 3 dX11_taking_100 ic_3 ?_
              refine j_imul dX11_taking_101 ?_
              refine j_goto (tgt := 107) dX11_taking_102 rfl ?_
              refine j_iret dX11_taking_107 rfl ?_
              have hV : noteVL Z.2.2.2.2 (tkL 5) = (noteVL (noteV (noteV Z.2.2.2.2 30) 11) (stL 5)) := rfl
              have hv : tkV 5 (Z.1 11 i) (nI i) x = (((stV 5 (Z.1 11 i) (nI i) x) * 2) * 3) := rfl
              rw [hV, hv] at hQ
              exact hQ _ _ ⟨rfl, cv16⟩
    · exact absurd c2 (by decide)
  · exact absurd c1 (by decide)
set_option maxRecDepth 20000 in
set_option maxHeartbeats 4000000 in
theorem T_tk6 {d : Nat} {M : jk_M} {Z : ZS} (cv : MV M Z) {q : Nat} (hq : Z.2.2.2.2 10 = nI q) (hq9 : q < 80) (i : Nat) (hi : i < nT Z.1) (hi16 : i < 16) (x : Int32) (hkk : Z.1 10 i = 6) : J Fr_X11_taking (d + 2) 0 0 0 [(0, .ref 0), (1, .int (nI i)), (2, .int x)] [] M (jk_ex (some (.int (tkV 6 (Z.1 11 i) (nI i) x))) (fun M1 => MV M1 (vZ Z (noteVL Z.2.2.2.2 (tkL 6))))) := by
  refine j_post (fun Q hQ => ?_)
  have hM := cv.1
  have hl3 := st_len 6
  have hl5 := tk_len 6
  refine j_aload_n 0 dX11_taking_0 rfl ?_
  refine j_getr (q := 2) dX11_taking_1 fX11_29 (shM hM sgM_0) rfl (rfM hM rfM_0_10) ?_
  refine j_iload_n 1 dX11_taking_4 rfl ?_
  refine j_ialdN i dX11_taking_5 (shM hM sgM_2) (by omega) (by omega) ?_
  refine j_topi 6 ((mr_arT cv.2.1 (k := 0) hi (by decide)).trans hkk) ?_
  refine j_istore_n (L' := [(3, .int 6), (0, .ref 0), (1, .int (nI i)), (2, .int x)]) dX11_taking_6 (by decide) rfl ?_
  refine j_iload_n 3 dX11_taking_7 rfl ?_
  refine j_istore (L' := [(4, .int x), (3, .int 6), (0, .ref 0), (1, .int (nI i)), (2, .int x)]) dX11_taking_8 (by decide) rfl ?_
  refine j_iload_n 1 dX11_taking_10 rfl ?_
  refine j_bipush 6 dX11_taking_11 bp_6 ?_
  refine j_icmp_ne (tgt := 32) dX11_taking_13 rfl (fun c1 => ?_) (fun c1 => ?_)
  · exact absurd c1 (by decide)
  · refine j_aload_n 2 dX11_taking_16 rfl ?_
    refine j_bipush 71 dX11_taking_17 bp_71 ?_
    refine j_callV (kc := 0) (ks := 0) (a := 0) (b := 0) (d' := d) (As := [.int 71]) dX11_taking_19 kX11_321 rfl (shM hM sgM_0) (by omega) rfl rfl rfl (Nat.le_of_ble_eq_true rfl) (Nat.le_of_ble_eq_true rfl) (T_X11_body cv (q := q) hq (by omega) 71) (kk_ev (fun M2 hM3 => ?_))
    have cv4 : MV M2 (vZ Z (noteV Z.2.2.2.2 71)) := hM3
    have hq5 : (noteV Z.2.2.2.2 71) 10 = nI (q + 1) := nt_10 hq
    refine j_iload_n 4 dX11_taking_22 rfl ?_
    refine j_aload_n 2 dX11_taking_23 rfl ?_
    refine j_getr (q := 3) dX11_taking_24 fX11_32 (shM cv4.1 sgM_0) rfl (rfM cv4.1 rfM_0_11) ?_
    refine j_iload_n 3 dX11_taking_27 rfl ?_
    refine j_ialdN i dX11_taking_28 (shM cv4.1 sgM_3) (by omega) (by omega) ?_
    refine j_topi (Z.1 11 i) (mr_arT cv4.2.1 (k := 1) hi (by decide)) ?_
    refine j_isub dX11_taking_29 ?_
    refine j_istore (L' := [(4, .int (x - (Z.1 11 i))), (3, .int 6), (0, .ref 0), (1, .int (nI i)), (2, .int x)]) dX11_taking_30 (by decide) rfl ?_
    refine j_iload_n 1 dX11_taking_32 rfl ?_
    refine j_iconst 3 dX11_taking_33 ic_3 ?_
    refine j_icmp_ne (tgt := 48) dX11_taking_34 rfl (fun c6 => ?_) (fun c6 => ?_)
    · refine j_iload_n 1 dX11_taking_48 rfl ?_
      refine j_iconst 2 dX11_taking_49 ic_2 ?_
      refine j_icmp_eq (tgt := 58) dX11_taking_50 rfl (fun c7 => ?_) (fun c7 => ?_)
      · exact absurd c7 (by decide)
      · refine j_iload_n 1 dX11_taking_53 rfl ?_
        refine j_iconst 5 dX11_taking_54 ic_5 ?_
        refine j_icmp_ne (tgt := 62) dX11_taking_55 rfl (fun c8 => ?_) (fun c8 => ?_)
        · refine j_iconst 0 dX11_taking_62 ic_0 ?_
          refine j_istore (L' := [(5, .int 0), (4, .int (x - (Z.1 11 i))), (3, .int 6), (0, .ref 0), (1, .int (nI i)), (2, .int x)]) dX11_taking_63 (by decide) rfl ?_
          refine j_iload 0 dX11_taking_65 rfl ?_
          refine j_if_eq (tgt := 76) dX11_taking_67 rfl (fun c9 => ?_) (fun c9 => ?_)
          · refine j_aload_n 3 dX11_taking_76 rfl ?_
            refine j_bipush 11 dX11_taking_77 bp_11 ?_
            refine j_callV (kc := 0) (ks := 0) (a := 0) (b := 0) (d' := d) (As := [.int 11]) dX11_taking_79 kX11_321 rfl (shM cv4.1 sgM_0) (by omega) rfl rfl rfl (Nat.le_of_ble_eq_true rfl) (Nat.le_of_ble_eq_true rfl) (T_X11_body cv4 (q := (q + 1)) hq5 (by omega) 11) (kk_ev (fun M10 hM11 => ?_))
            have cv12 : MV M10 (vZ Z (noteV (noteV Z.2.2.2.2 71) 11)) := hM11
            have hq13 : (noteV (noteV Z.2.2.2.2 71) 11) 10 = nI ((q + 1) + 1) := nt_10 hq5
            refine j_aload_n 3 dX11_taking_82 rfl ?_
            refine j_iload_n 4 dX11_taking_83 rfl ?_
            refine j_iload 1 dX11_taking_84 rfl ?_
            refine j_callV (kc := 0) (ks := 0) (a := 0) (b := 0) (d' := (d + 1)) (As := [.int (nI i), .int (x - (Z.1 11 i))]) dX11_taking_86 kX11_325 rfl (shM cv12.1 sgM_0) (by omega) rfl rfl rfl (Nat.le_of_ble_eq_true rfl) (Nat.le_of_ble_eq_true rfl) (T_st6 (Z := (vZ Z (noteV (noteV Z.2.2.2.2 71) 11))) cv12 (q := ((q + 1) + 1)) hq13 (by omega) i hi hi16 (x - (Z.1 11 i)) hkk) (kk_e (fun M14 hM15 => ?_))
            have cv16 : MV M14 (vZ Z (noteVL (noteV (noteV Z.2.2.2.2 71) 11) (stL 6))) := hM15
            have hq17 : (noteVL (noteV (noteV Z.2.2.2.2 71) 11) (stL 6)) 10 = nI (((q + 1) + 1) + (stL 6).length) := nl_10 _ hq13
            refine j_iconst 2 dX11_taking_89 ic_2 ?_
            refine j_imul dX11_taking_90 ?_
            refine j_istore (L' := [(6, .int ((stV 6 (Z.1 11 i) (nI i) (x - (Z.1 11 i))) * 2)), (5, .int 0), (4, .int (x - (Z.1 11 i))), (3, .int 6), (0, .ref 0), (1, .int (nI i)), (2, .int x)]) dX11_taking_91 (by decide) rfl ?_
            refine j_iload 1 dX11_taking_93 rfl ?_
            refine j_if_eq (tgt := 105) dX11_taking_95 rfl (fun c18 => ?_) (fun c18 => ?_)
            · refine j_iload 0 dX11_taking_105 rfl ?_
              refine j_iret dX11_taking_107 rfl ?_
              have hV : noteVL Z.2.2.2.2 (tkL 6) = (noteVL (noteV (noteV Z.2.2.2.2 71) 11) (stL 6)) := rfl
              have hv : tkV 6 (Z.1 11 i) (nI i) x = ((stV 6 (Z.1 11 i) (nI i) (x - (Z.1 11 i))) * 2) := rfl
              rw [hV, hv] at hQ
              exact hQ _ _ ⟨rfl, cv16⟩
            · exact absurd c18 (by decide)
          · exact absurd c9 (by decide)
        · exact absurd c8 (by decide)
    · exact absurd c6 (by decide)
theorem T_tk {d : Nat} {M : jk_M} {Z : ZS} (cv : MV M Z) {q : Nat} (hq : Z.2.2.2.2 10 = nI q) (hq9 : q < 80) (k : Nat) (hk : k < 7) (i : Nat) (hi : i < nT Z.1) (hi16 : i < 16) (x : Int32) (hkk : Z.1 10 i = nI k) : J Fr_X11_taking (d + 2) 0 0 0 [(0, .ref 0), (1, .int (nI i)), (2, .int x)] [] M (jk_ex (some (.int (tkV k (Z.1 11 i) (nI i) x))) (fun M1 => MV M1 (vZ Z (noteVL Z.2.2.2.2 (tkL k))))) := by
  have h7 : k = 0 ∨ k = 1 ∨ k = 2 ∨ k = 3 ∨ k = 4 ∨ k = 5 ∨ k = 6 := by omega
  rcases h7 with rfl | rfl | rfl | rfl | rfl | rfl | rfl
  · exact T_tk0 cv hq hq9 i hi hi16 x hkk
  · exact T_tk1 cv hq hq9 i hi hi16 x hkk
  · exact T_tk2 cv hq hq9 i hi hi16 x hkk
  · exact T_tk3 cv hq hq9 i hi hi16 x hkk
  · exact T_tk4 cv hq hq9 i hi hi16 x hkk
  · exact T_tk5 cv hq hq9 i hi hi16 x hkk
  · exact T_tk6 cv hq hq9 i hi hi16 x hkk
set_option maxRecDepth 20000 in
set_option maxHeartbeats 4000000 in
theorem T_hm0 {d : Nat} {M : jk_M} {Z : ZS} (cv : MV M Z) {q : Nat} (hq : Z.2.2.2.2 10 = nI q) (hq9 : q < 70) (i : Nat) (hi : i < nT Z.1) (hi16 : i < 16) (x : Int32) (hkk : Z.1 10 i = 0) : J Fr_X11_humsTo (d + 3) 0 0 0 [(0, .ref 0), (1, .int (nI i)), (2, .int x)] [] M (jk_ex (some (.int (hmV 0 (Z.1 11 i) (nI i) x))) (fun M1 => MV M1 (vZ Z (noteVL Z.2.2.2.2 (hmL 0))))) := by
  refine j_post (fun Q hQ => ?_)
  have hM := cv.1
  have hl3 := st_len 0
  have hl5 := tk_len 0
  refine j_aload_n 0 dX11_humsTo_0 rfl ?_
  refine j_getr (q := 2) dX11_humsTo_1 fX11_29 (shM hM sgM_0) rfl (rfM hM rfM_0_10) ?_
  refine j_iload_n 1 dX11_humsTo_4 rfl ?_
  refine j_ialdN i dX11_humsTo_5 (shM hM sgM_2) (by omega) (by omega) ?_
  refine j_topi 0 ((mr_arT cv.2.1 (k := 0) hi (by decide)).trans hkk) ?_
  refine j_istore_n (L' := [(3, .int 0), (0, .ref 0), (1, .int (nI i)), (2, .int x)]) dX11_humsTo_6 (by decide) rfl ?_
  refine j_iload_n 0 dX11_humsTo_7 rfl ?_
  refine j_iconst 4 dX11_humsTo_8 ic_4 ?_
  refine j_icmp_eq (tgt := 18) dX11_humsTo_9 rfl (fun c1 => ?_) (fun c1 => ?_)
  · exact absurd c1 (by decide)
  · refine j_iload_n 0 dX11_humsTo_12 rfl ?_
    refine j_bipush 6 dX11_humsTo_13 bp_6 ?_
    refine j_icmp_ne (tgt := 24) dX11_humsTo_15 rfl (fun c2 => ?_) (fun c2 => ?_)
    · refine j_iload_n 0 dX11_humsTo_24 rfl ?_
      refine j_iconst 5 dX11_humsTo_25 ic_5 ?_
      refine j_icmp_ne (tgt := 35) dX11_humsTo_26 rfl (fun c3 => ?_) (fun c3 => ?_)
      · refine j_aload_n 1 dX11_humsTo_35 rfl ?_
        refine j_bipush 12 dX11_humsTo_36 bp_12 ?_
        refine j_callV (kc := 0) (ks := 0) (a := 0) (b := 0) (d' := d) (As := [.int 12]) dX11_humsTo_38 kX11_321 rfl (shM hM sgM_0) (by omega) rfl rfl rfl (Nat.le_of_ble_eq_true rfl) (Nat.le_of_ble_eq_true rfl) (T_X11_body cv (q := q) hq (by omega) 12) (kk_ev (fun M4 hM5 => ?_))
        have cv6 : MV M4 (vZ Z (noteV Z.2.2.2.2 12)) := hM5
        have hq7 : (noteV Z.2.2.2.2 12) 10 = nI (q + 1) := nt_10 hq
        refine j_aload_n 1 dX11_humsTo_41 rfl ?_
        refine j_iload_n 2 dX11_humsTo_42 rfl ?_
        refine j_iload_n 3 dX11_humsTo_43 rfl ?_
        refine j_callV (kc := 0) (ks := 0) (a := 0) (b := 0) (d' := (d + 2)) (As := [.int (nI i), .int x]) dX11_humsTo_44 kX11_328 rfl (shM cv6.1 sgM_0) (by omega) rfl rfl rfl (Nat.le_of_ble_eq_true rfl) (Nat.le_of_ble_eq_true rfl) (T_tk0 (Z := (vZ Z (noteV Z.2.2.2.2 12))) cv6 (q := (q + 1)) hq7 (by omega) i hi hi16 x hkk) (kk_e (fun M8 hM9 => ?_))
        have cv10 : MV M8 (vZ Z (noteVL (noteV Z.2.2.2.2 12) (tkL 0))) := hM9
        have hq11 : (noteVL (noteV Z.2.2.2.2 12) (tkL 0)) 10 = nI ((q + 1) + (tkL 0).length) := nl_10 _ hq7
        refine j_istore (L' := [(4, .int (tkV 0 (Z.1 11 i) (nI i) x)), (3, .int 0), (0, .ref 0), (1, .int (nI i)), (2, .int x)]) dX11_humsTo_47 (by decide) rfl ?_
        refine j_iload 0 dX11_humsTo_49 rfl ?_
        refine j_aload_n 2 dX11_humsTo_51 rfl ?_
        refine j_iload_n 3 dX11_humsTo_52 rfl ?_
        refine j_iload_n 4 dX11_humsTo_53 rfl ?_
        refine j_aload_n 2 dX11_humsTo_54 rfl ?_
        refine j_getr (q := 3) dX11_humsTo_55 fX11_32 (shM cv10.1 sgM_0) rfl (rfM cv10.1 rfM_0_11) ?_
        refine j_iload_n 3 dX11_humsTo_58 rfl ?_
        refine j_ialdN i dX11_humsTo_59 (shM cv10.1 sgM_3) (by omega) (by omega) ?_
        refine j_topi (Z.1 11 i) (mr_arT cv10.2.1 (k := 1) hi (by decide)) ?_
        refine j_isub dX11_humsTo_60 ?_
        refine j_callV (kc := 0) (ks := 0) (a := 0) (b := 0) (d' := (d + 1)) (As := [.int (nI i), .int (x - (Z.1 11 i))]) dX11_humsTo_61 kX11_325 rfl (shM cv10.1 sgM_0) (by omega) rfl rfl rfl (Nat.le_of_ble_eq_true rfl) (Nat.le_of_ble_eq_true rfl) (T_st0 (Z := (vZ Z (noteVL (noteV Z.2.2.2.2 12) (tkL 0)))) cv10 (q := ((q + 1) + (tkL 0).length)) hq11 (by omega) i hi hi16 (x - (Z.1 11 i)) hkk) (kk_e (fun M12 hM13 => ?_))
        have cv14 : MV M12 (vZ Z (noteVL (noteVL (noteV Z.2.2.2.2 12) (tkL 0)) (stL 0))) := hM13
        have hq15 : (noteVL (noteVL (noteV Z.2.2.2.2 12) (tkL 0)) (stL 0)) 10 = nI (((q + 1) + (tkL 0).length) + (stL 0).length) := nl_10 _ hq11
        refine j_ixor dX11_humsTo_64 ?_
        refine j_istore (L' := [(4, .int ((tkV 0 (Z.1 11 i) (nI i) x) ^^^ (stV 0 (Z.1 11 i) (nI i) (x - (Z.1 11 i))))), (3, .int 0), (0, .ref 0), (1, .int (nI i)), (2, .int x)]) dX11_humsTo_65 (by decide) rfl ?_
        refine j_iload_n 1 dX11_humsTo_67 rfl ?_
        refine j_iconst 4 dX11_humsTo_68 ic_4 ?_
        refine j_icmp_eq (tgt := 78) dX11_humsTo_69 rfl (fun c16 => ?_) (fun c16 => ?_)
        · exact absurd c16 (by decide)
        · refine j_iload_n 1 dX11_humsTo_72 rfl ?_
          refine j_bipush 6 dX11_humsTo_73 bp_6 ?_
          refine j_icmp_ne (tgt := 84) dX11_humsTo_75 rfl (fun c17 => ?_) (fun c17 => ?_)
          · refine j_iload_n 1 dX11_humsTo_84 rfl ?_
            refine j_iconst 5 dX11_humsTo_85 ic_5 ?_
            refine j_icmp_ne (tgt := 96) dX11_humsTo_86 rfl (fun c18 => ?_) (fun c18 => ?_)
            · refine j_iload 0 dX11_humsTo_96 rfl ?_
              refine j_iret dX11_humsTo_98 rfl ?_
              have hV : noteVL Z.2.2.2.2 (hmL 0) = (noteVL (noteVL (noteV Z.2.2.2.2 12) (tkL 0)) (stL 0)) := by rw [show hmL 0 = 12 :: (tkL 0 ++ stL 0) from rfl]; simp only [noteVL, nl_app]
              have hv : hmV 0 (Z.1 11 i) (nI i) x = ((tkV 0 (Z.1 11 i) (nI i) x) ^^^ (stV 0 (Z.1 11 i) (nI i) (x - (Z.1 11 i)))) := rfl
              rw [hV, hv] at hQ
              exact hQ _ _ ⟨rfl, cv14⟩
            · exact absurd c18 (by decide)
          · exact absurd c17 (by decide)
      · exact absurd c3 (by decide)
    · exact absurd c2 (by decide)
set_option maxRecDepth 20000 in
set_option maxHeartbeats 4000000 in
theorem T_hm1 {d : Nat} {M : jk_M} {Z : ZS} (cv : MV M Z) {q : Nat} (hq : Z.2.2.2.2 10 = nI q) (hq9 : q < 70) (i : Nat) (hi : i < nT Z.1) (hi16 : i < 16) (x : Int32) (hkk : Z.1 10 i = 1) : J Fr_X11_humsTo (d + 3) 0 0 0 [(0, .ref 0), (1, .int (nI i)), (2, .int x)] [] M (jk_ex (some (.int (hmV 1 (Z.1 11 i) (nI i) x))) (fun M1 => MV M1 (vZ Z (noteVL Z.2.2.2.2 (hmL 1))))) := by
  refine j_post (fun Q hQ => ?_)
  have hM := cv.1
  have hl3 := st_len 1
  have hl5 := tk_len 1
  refine j_aload_n 0 dX11_humsTo_0 rfl ?_
  refine j_getr (q := 2) dX11_humsTo_1 fX11_29 (shM hM sgM_0) rfl (rfM hM rfM_0_10) ?_
  refine j_iload_n 1 dX11_humsTo_4 rfl ?_
  refine j_ialdN i dX11_humsTo_5 (shM hM sgM_2) (by omega) (by omega) ?_
  refine j_topi 1 ((mr_arT cv.2.1 (k := 0) hi (by decide)).trans hkk) ?_
  refine j_istore_n (L' := [(3, .int 1), (0, .ref 0), (1, .int (nI i)), (2, .int x)]) dX11_humsTo_6 (by decide) rfl ?_
  refine j_iload_n 0 dX11_humsTo_7 rfl ?_
  refine j_iconst 4 dX11_humsTo_8 ic_4 ?_
  refine j_icmp_eq (tgt := 18) dX11_humsTo_9 rfl (fun c1 => ?_) (fun c1 => ?_)
  · exact absurd c1 (by decide)
  · refine j_iload_n 0 dX11_humsTo_12 rfl ?_
    refine j_bipush 6 dX11_humsTo_13 bp_6 ?_
    refine j_icmp_ne (tgt := 24) dX11_humsTo_15 rfl (fun c2 => ?_) (fun c2 => ?_)
    · refine j_iload_n 0 dX11_humsTo_24 rfl ?_
      refine j_iconst 5 dX11_humsTo_25 ic_5 ?_
      refine j_icmp_ne (tgt := 35) dX11_humsTo_26 rfl (fun c3 => ?_) (fun c3 => ?_)
      · refine j_aload_n 1 dX11_humsTo_35 rfl ?_
        refine j_bipush 12 dX11_humsTo_36 bp_12 ?_
        refine j_callV (kc := 0) (ks := 0) (a := 0) (b := 0) (d' := d) (As := [.int 12]) dX11_humsTo_38 kX11_321 rfl (shM hM sgM_0) (by omega) rfl rfl rfl (Nat.le_of_ble_eq_true rfl) (Nat.le_of_ble_eq_true rfl) (T_X11_body cv (q := q) hq (by omega) 12) (kk_ev (fun M4 hM5 => ?_))
        have cv6 : MV M4 (vZ Z (noteV Z.2.2.2.2 12)) := hM5
        have hq7 : (noteV Z.2.2.2.2 12) 10 = nI (q + 1) := nt_10 hq
        refine j_aload_n 1 dX11_humsTo_41 rfl ?_
        refine j_iload_n 2 dX11_humsTo_42 rfl ?_
        refine j_iload_n 3 dX11_humsTo_43 rfl ?_
        refine j_callV (kc := 0) (ks := 0) (a := 0) (b := 0) (d' := (d + 2)) (As := [.int (nI i), .int x]) dX11_humsTo_44 kX11_328 rfl (shM cv6.1 sgM_0) (by omega) rfl rfl rfl (Nat.le_of_ble_eq_true rfl) (Nat.le_of_ble_eq_true rfl) (T_tk1 (Z := (vZ Z (noteV Z.2.2.2.2 12))) cv6 (q := (q + 1)) hq7 (by omega) i hi hi16 x hkk) (kk_e (fun M8 hM9 => ?_))
        have cv10 : MV M8 (vZ Z (noteVL (noteV Z.2.2.2.2 12) (tkL 1))) := hM9
        have hq11 : (noteVL (noteV Z.2.2.2.2 12) (tkL 1)) 10 = nI ((q + 1) + (tkL 1).length) := nl_10 _ hq7
        refine j_istore (L' := [(4, .int (tkV 1 (Z.1 11 i) (nI i) x)), (3, .int 1), (0, .ref 0), (1, .int (nI i)), (2, .int x)]) dX11_humsTo_47 (by decide) rfl ?_
        refine j_iload 0 dX11_humsTo_49 rfl ?_
        refine j_aload_n 2 dX11_humsTo_51 rfl ?_
        refine j_iload_n 3 dX11_humsTo_52 rfl ?_
        refine j_iload_n 4 dX11_humsTo_53 rfl ?_
        refine j_aload_n 2 dX11_humsTo_54 rfl ?_
        refine j_getr (q := 3) dX11_humsTo_55 fX11_32 (shM cv10.1 sgM_0) rfl (rfM cv10.1 rfM_0_11) ?_
        refine j_iload_n 3 dX11_humsTo_58 rfl ?_
        refine j_ialdN i dX11_humsTo_59 (shM cv10.1 sgM_3) (by omega) (by omega) ?_
        refine j_topi (Z.1 11 i) (mr_arT cv10.2.1 (k := 1) hi (by decide)) ?_
        refine j_isub dX11_humsTo_60 ?_
        refine j_callV (kc := 0) (ks := 0) (a := 0) (b := 0) (d' := (d + 1)) (As := [.int (nI i), .int (x - (Z.1 11 i))]) dX11_humsTo_61 kX11_325 rfl (shM cv10.1 sgM_0) (by omega) rfl rfl rfl (Nat.le_of_ble_eq_true rfl) (Nat.le_of_ble_eq_true rfl) (T_st1 (Z := (vZ Z (noteVL (noteV Z.2.2.2.2 12) (tkL 1)))) cv10 (q := ((q + 1) + (tkL 1).length)) hq11 (by omega) i hi hi16 (x - (Z.1 11 i)) hkk) (kk_e (fun M12 hM13 => ?_))
        have cv14 : MV M12 (vZ Z (noteVL (noteVL (noteV Z.2.2.2.2 12) (tkL 1)) (stL 1))) := hM13
        have hq15 : (noteVL (noteVL (noteV Z.2.2.2.2 12) (tkL 1)) (stL 1)) 10 = nI (((q + 1) + (tkL 1).length) + (stL 1).length) := nl_10 _ hq11
        refine j_ixor dX11_humsTo_64 ?_
        refine j_istore (L' := [(4, .int ((tkV 1 (Z.1 11 i) (nI i) x) ^^^ (stV 1 (Z.1 11 i) (nI i) (x - (Z.1 11 i))))), (3, .int 1), (0, .ref 0), (1, .int (nI i)), (2, .int x)]) dX11_humsTo_65 (by decide) rfl ?_
        refine j_iload_n 1 dX11_humsTo_67 rfl ?_
        refine j_iconst 4 dX11_humsTo_68 ic_4 ?_
        refine j_icmp_eq (tgt := 78) dX11_humsTo_69 rfl (fun c16 => ?_) (fun c16 => ?_)
        · exact absurd c16 (by decide)
        · refine j_iload_n 1 dX11_humsTo_72 rfl ?_
          refine j_bipush 6 dX11_humsTo_73 bp_6 ?_
          refine j_icmp_ne (tgt := 84) dX11_humsTo_75 rfl (fun c17 => ?_) (fun c17 => ?_)
          · refine j_iload_n 1 dX11_humsTo_84 rfl ?_
            refine j_iconst 5 dX11_humsTo_85 ic_5 ?_
            refine j_icmp_ne (tgt := 96) dX11_humsTo_86 rfl (fun c18 => ?_) (fun c18 => ?_)
            · refine j_iload 0 dX11_humsTo_96 rfl ?_
              refine j_iret dX11_humsTo_98 rfl ?_
              have hV : noteVL Z.2.2.2.2 (hmL 1) = (noteVL (noteVL (noteV Z.2.2.2.2 12) (tkL 1)) (stL 1)) := by rw [show hmL 1 = 12 :: (tkL 1 ++ stL 1) from rfl]; simp only [noteVL, nl_app]
              have hv : hmV 1 (Z.1 11 i) (nI i) x = ((tkV 1 (Z.1 11 i) (nI i) x) ^^^ (stV 1 (Z.1 11 i) (nI i) (x - (Z.1 11 i)))) := rfl
              rw [hV, hv] at hQ
              exact hQ _ _ ⟨rfl, cv14⟩
            · exact absurd c18 (by decide)
          · exact absurd c17 (by decide)
      · exact absurd c3 (by decide)
    · exact absurd c2 (by decide)
set_option maxRecDepth 20000 in
set_option maxHeartbeats 4000000 in
theorem T_hm2 {d : Nat} {M : jk_M} {Z : ZS} (cv : MV M Z) {q : Nat} (hq : Z.2.2.2.2 10 = nI q) (hq9 : q < 70) (i : Nat) (hi : i < nT Z.1) (hi16 : i < 16) (x : Int32) (hkk : Z.1 10 i = 2) : J Fr_X11_humsTo (d + 3) 0 0 0 [(0, .ref 0), (1, .int (nI i)), (2, .int x)] [] M (jk_ex (some (.int (hmV 2 (Z.1 11 i) (nI i) x))) (fun M1 => MV M1 (vZ Z (noteVL Z.2.2.2.2 (hmL 2))))) := by
  refine j_post (fun Q hQ => ?_)
  have hM := cv.1
  have hl3 := st_len 2
  have hl5 := tk_len 2
  refine j_aload_n 0 dX11_humsTo_0 rfl ?_
  refine j_getr (q := 2) dX11_humsTo_1 fX11_29 (shM hM sgM_0) rfl (rfM hM rfM_0_10) ?_
  refine j_iload_n 1 dX11_humsTo_4 rfl ?_
  refine j_ialdN i dX11_humsTo_5 (shM hM sgM_2) (by omega) (by omega) ?_
  refine j_topi 2 ((mr_arT cv.2.1 (k := 0) hi (by decide)).trans hkk) ?_
  refine j_istore_n (L' := [(3, .int 2), (0, .ref 0), (1, .int (nI i)), (2, .int x)]) dX11_humsTo_6 (by decide) rfl ?_
  refine j_iload_n 0 dX11_humsTo_7 rfl ?_
  refine j_iconst 4 dX11_humsTo_8 ic_4 ?_
  refine j_icmp_eq (tgt := 18) dX11_humsTo_9 rfl (fun c1 => ?_) (fun c1 => ?_)
  · exact absurd c1 (by decide)
  · refine j_iload_n 0 dX11_humsTo_12 rfl ?_
    refine j_bipush 6 dX11_humsTo_13 bp_6 ?_
    refine j_icmp_ne (tgt := 24) dX11_humsTo_15 rfl (fun c2 => ?_) (fun c2 => ?_)
    · refine j_iload_n 0 dX11_humsTo_24 rfl ?_
      refine j_iconst 5 dX11_humsTo_25 ic_5 ?_
      refine j_icmp_ne (tgt := 35) dX11_humsTo_26 rfl (fun c3 => ?_) (fun c3 => ?_)
      · refine j_aload_n 1 dX11_humsTo_35 rfl ?_
        refine j_bipush 12 dX11_humsTo_36 bp_12 ?_
        refine j_callV (kc := 0) (ks := 0) (a := 0) (b := 0) (d' := d) (As := [.int 12]) dX11_humsTo_38 kX11_321 rfl (shM hM sgM_0) (by omega) rfl rfl rfl (Nat.le_of_ble_eq_true rfl) (Nat.le_of_ble_eq_true rfl) (T_X11_body cv (q := q) hq (by omega) 12) (kk_ev (fun M4 hM5 => ?_))
        have cv6 : MV M4 (vZ Z (noteV Z.2.2.2.2 12)) := hM5
        have hq7 : (noteV Z.2.2.2.2 12) 10 = nI (q + 1) := nt_10 hq
        refine j_aload_n 1 dX11_humsTo_41 rfl ?_
        refine j_iload_n 2 dX11_humsTo_42 rfl ?_
        refine j_iload_n 3 dX11_humsTo_43 rfl ?_
        refine j_callV (kc := 0) (ks := 0) (a := 0) (b := 0) (d' := (d + 2)) (As := [.int (nI i), .int x]) dX11_humsTo_44 kX11_328 rfl (shM cv6.1 sgM_0) (by omega) rfl rfl rfl (Nat.le_of_ble_eq_true rfl) (Nat.le_of_ble_eq_true rfl) (T_tk2 (Z := (vZ Z (noteV Z.2.2.2.2 12))) cv6 (q := (q + 1)) hq7 (by omega) i hi hi16 x hkk) (kk_e (fun M8 hM9 => ?_))
        have cv10 : MV M8 (vZ Z (noteVL (noteV Z.2.2.2.2 12) (tkL 2))) := hM9
        have hq11 : (noteVL (noteV Z.2.2.2.2 12) (tkL 2)) 10 = nI ((q + 1) + (tkL 2).length) := nl_10 _ hq7
        refine j_istore (L' := [(4, .int (tkV 2 (Z.1 11 i) (nI i) x)), (3, .int 2), (0, .ref 0), (1, .int (nI i)), (2, .int x)]) dX11_humsTo_47 (by decide) rfl ?_
        refine j_iload 0 dX11_humsTo_49 rfl ?_
        refine j_aload_n 2 dX11_humsTo_51 rfl ?_
        refine j_iload_n 3 dX11_humsTo_52 rfl ?_
        refine j_iload_n 4 dX11_humsTo_53 rfl ?_
        refine j_aload_n 2 dX11_humsTo_54 rfl ?_
        refine j_getr (q := 3) dX11_humsTo_55 fX11_32 (shM cv10.1 sgM_0) rfl (rfM cv10.1 rfM_0_11) ?_
        refine j_iload_n 3 dX11_humsTo_58 rfl ?_
        refine j_ialdN i dX11_humsTo_59 (shM cv10.1 sgM_3) (by omega) (by omega) ?_
        refine j_topi (Z.1 11 i) (mr_arT cv10.2.1 (k := 1) hi (by decide)) ?_
        refine j_isub dX11_humsTo_60 ?_
        refine j_callV (kc := 0) (ks := 0) (a := 0) (b := 0) (d' := (d + 1)) (As := [.int (nI i), .int (x - (Z.1 11 i))]) dX11_humsTo_61 kX11_325 rfl (shM cv10.1 sgM_0) (by omega) rfl rfl rfl (Nat.le_of_ble_eq_true rfl) (Nat.le_of_ble_eq_true rfl) (T_st2 (Z := (vZ Z (noteVL (noteV Z.2.2.2.2 12) (tkL 2)))) cv10 (q := ((q + 1) + (tkL 2).length)) hq11 (by omega) i hi hi16 (x - (Z.1 11 i)) hkk) (kk_e (fun M12 hM13 => ?_))
        have cv14 : MV M12 (vZ Z (noteVL (noteVL (noteV Z.2.2.2.2 12) (tkL 2)) (stL 2))) := hM13
        have hq15 : (noteVL (noteVL (noteV Z.2.2.2.2 12) (tkL 2)) (stL 2)) 10 = nI (((q + 1) + (tkL 2).length) + (stL 2).length) := nl_10 _ hq11
        refine j_ixor dX11_humsTo_64 ?_
        refine j_istore (L' := [(4, .int ((tkV 2 (Z.1 11 i) (nI i) x) ^^^ (stV 2 (Z.1 11 i) (nI i) (x - (Z.1 11 i))))), (3, .int 2), (0, .ref 0), (1, .int (nI i)), (2, .int x)]) dX11_humsTo_65 (by decide) rfl ?_
        refine j_iload_n 1 dX11_humsTo_67 rfl ?_
        refine j_iconst 4 dX11_humsTo_68 ic_4 ?_
        refine j_icmp_eq (tgt := 78) dX11_humsTo_69 rfl (fun c16 => ?_) (fun c16 => ?_)
        · exact absurd c16 (by decide)
        · refine j_iload_n 1 dX11_humsTo_72 rfl ?_
          refine j_bipush 6 dX11_humsTo_73 bp_6 ?_
          refine j_icmp_ne (tgt := 84) dX11_humsTo_75 rfl (fun c17 => ?_) (fun c17 => ?_)
          · refine j_iload_n 1 dX11_humsTo_84 rfl ?_
            refine j_iconst 5 dX11_humsTo_85 ic_5 ?_
            refine j_icmp_ne (tgt := 96) dX11_humsTo_86 rfl (fun c18 => ?_) (fun c18 => ?_)
            · refine j_iload 0 dX11_humsTo_96 rfl ?_
              refine j_iret dX11_humsTo_98 rfl ?_
              have hV : noteVL Z.2.2.2.2 (hmL 2) = (noteVL (noteVL (noteV Z.2.2.2.2 12) (tkL 2)) (stL 2)) := by rw [show hmL 2 = 12 :: (tkL 2 ++ stL 2) from rfl]; simp only [noteVL, nl_app]
              have hv : hmV 2 (Z.1 11 i) (nI i) x = ((tkV 2 (Z.1 11 i) (nI i) x) ^^^ (stV 2 (Z.1 11 i) (nI i) (x - (Z.1 11 i)))) := rfl
              rw [hV, hv] at hQ
              exact hQ _ _ ⟨rfl, cv14⟩
            · exact absurd c18 (by decide)
          · exact absurd c17 (by decide)
      · exact absurd c3 (by decide)
    · exact absurd c2 (by decide)
set_option maxRecDepth 20000 in
set_option maxHeartbeats 4000000 in
theorem T_hm3 {d : Nat} {M : jk_M} {Z : ZS} (cv : MV M Z) {q : Nat} (hq : Z.2.2.2.2 10 = nI q) (hq9 : q < 70) (i : Nat) (hi : i < nT Z.1) (hi16 : i < 16) (x : Int32) (hkk : Z.1 10 i = 3) : J Fr_X11_humsTo (d + 3) 0 0 0 [(0, .ref 0), (1, .int (nI i)), (2, .int x)] [] M (jk_ex (some (.int (hmV 3 (Z.1 11 i) (nI i) x))) (fun M1 => MV M1 (vZ Z (noteVL Z.2.2.2.2 (hmL 3))))) := by
  refine j_post (fun Q hQ => ?_)
  have hM := cv.1
  have hl3 := st_len 3
  have hl5 := tk_len 3
  refine j_aload_n 0 dX11_humsTo_0 rfl ?_
  refine j_getr (q := 2) dX11_humsTo_1 fX11_29 (shM hM sgM_0) rfl (rfM hM rfM_0_10) ?_
  refine j_iload_n 1 dX11_humsTo_4 rfl ?_
  refine j_ialdN i dX11_humsTo_5 (shM hM sgM_2) (by omega) (by omega) ?_
  refine j_topi 3 ((mr_arT cv.2.1 (k := 0) hi (by decide)).trans hkk) ?_
  refine j_istore_n (L' := [(3, .int 3), (0, .ref 0), (1, .int (nI i)), (2, .int x)]) dX11_humsTo_6 (by decide) rfl ?_
  refine j_iload_n 0 dX11_humsTo_7 rfl ?_
  refine j_iconst 4 dX11_humsTo_8 ic_4 ?_
  refine j_icmp_eq (tgt := 18) dX11_humsTo_9 rfl (fun c1 => ?_) (fun c1 => ?_)
  · exact absurd c1 (by decide)
  · refine j_iload_n 0 dX11_humsTo_12 rfl ?_
    refine j_bipush 6 dX11_humsTo_13 bp_6 ?_
    refine j_icmp_ne (tgt := 24) dX11_humsTo_15 rfl (fun c2 => ?_) (fun c2 => ?_)
    · refine j_iload_n 0 dX11_humsTo_24 rfl ?_
      refine j_iconst 5 dX11_humsTo_25 ic_5 ?_
      refine j_icmp_ne (tgt := 35) dX11_humsTo_26 rfl (fun c3 => ?_) (fun c3 => ?_)
      · refine j_aload_n 1 dX11_humsTo_35 rfl ?_
        refine j_bipush 12 dX11_humsTo_36 bp_12 ?_
        refine j_callV (kc := 0) (ks := 0) (a := 0) (b := 0) (d' := d) (As := [.int 12]) dX11_humsTo_38 kX11_321 rfl (shM hM sgM_0) (by omega) rfl rfl rfl (Nat.le_of_ble_eq_true rfl) (Nat.le_of_ble_eq_true rfl) (T_X11_body cv (q := q) hq (by omega) 12) (kk_ev (fun M4 hM5 => ?_))
        have cv6 : MV M4 (vZ Z (noteV Z.2.2.2.2 12)) := hM5
        have hq7 : (noteV Z.2.2.2.2 12) 10 = nI (q + 1) := nt_10 hq
        refine j_aload_n 1 dX11_humsTo_41 rfl ?_
        refine j_iload_n 2 dX11_humsTo_42 rfl ?_
        refine j_iload_n 3 dX11_humsTo_43 rfl ?_
        refine j_callV (kc := 0) (ks := 0) (a := 0) (b := 0) (d' := (d + 2)) (As := [.int (nI i), .int x]) dX11_humsTo_44 kX11_328 rfl (shM cv6.1 sgM_0) (by omega) rfl rfl rfl (Nat.le_of_ble_eq_true rfl) (Nat.le_of_ble_eq_true rfl) (T_tk3 (Z := (vZ Z (noteV Z.2.2.2.2 12))) cv6 (q := (q + 1)) hq7 (by omega) i hi hi16 x hkk) (kk_e (fun M8 hM9 => ?_))
        have cv10 : MV M8 (vZ Z (noteVL (noteV Z.2.2.2.2 12) (tkL 3))) := hM9
        have hq11 : (noteVL (noteV Z.2.2.2.2 12) (tkL 3)) 10 = nI ((q + 1) + (tkL 3).length) := nl_10 _ hq7
        refine j_istore (L' := [(4, .int (tkV 3 (Z.1 11 i) (nI i) x)), (3, .int 3), (0, .ref 0), (1, .int (nI i)), (2, .int x)]) dX11_humsTo_47 (by decide) rfl ?_
        refine j_iload 0 dX11_humsTo_49 rfl ?_
        refine j_aload_n 2 dX11_humsTo_51 rfl ?_
        refine j_iload_n 3 dX11_humsTo_52 rfl ?_
        refine j_iload_n 4 dX11_humsTo_53 rfl ?_
        refine j_aload_n 2 dX11_humsTo_54 rfl ?_
        refine j_getr (q := 3) dX11_humsTo_55 fX11_32 (shM cv10.1 sgM_0) rfl (rfM cv10.1 rfM_0_11) ?_
        refine j_iload_n 3 dX11_humsTo_58 rfl ?_
        refine j_ialdN i dX11_humsTo_59 (shM cv10.1 sgM_3) (by omega) (by omega) ?_
        refine j_topi (Z.1 11 i) (mr_arT cv10.2.1 (k := 1) hi (by decide)) ?_
        refine j_isub dX11_humsTo_60 ?_
        refine j_callV (kc := 0) (ks := 0) (a := 0) (b := 0) (d' := (d + 1)) (As := [.int (nI i), .int (x - (Z.1 11 i))]) dX11_humsTo_61 kX11_325 rfl (shM cv10.1 sgM_0) (by omega) rfl rfl rfl (Nat.le_of_ble_eq_true rfl) (Nat.le_of_ble_eq_true rfl) (T_st3 (Z := (vZ Z (noteVL (noteV Z.2.2.2.2 12) (tkL 3)))) cv10 (q := ((q + 1) + (tkL 3).length)) hq11 (by omega) i hi hi16 (x - (Z.1 11 i)) hkk) (kk_e (fun M12 hM13 => ?_))
        have cv14 : MV M12 (vZ Z (noteVL (noteVL (noteV Z.2.2.2.2 12) (tkL 3)) (stL 3))) := hM13
        have hq15 : (noteVL (noteVL (noteV Z.2.2.2.2 12) (tkL 3)) (stL 3)) 10 = nI (((q + 1) + (tkL 3).length) + (stL 3).length) := nl_10 _ hq11
        refine j_ixor dX11_humsTo_64 ?_
        refine j_istore (L' := [(4, .int ((tkV 3 (Z.1 11 i) (nI i) x) ^^^ (stV 3 (Z.1 11 i) (nI i) (x - (Z.1 11 i))))), (3, .int 3), (0, .ref 0), (1, .int (nI i)), (2, .int x)]) dX11_humsTo_65 (by decide) rfl ?_
        refine j_iload_n 1 dX11_humsTo_67 rfl ?_
        refine j_iconst 4 dX11_humsTo_68 ic_4 ?_
        refine j_icmp_eq (tgt := 78) dX11_humsTo_69 rfl (fun c16 => ?_) (fun c16 => ?_)
        · exact absurd c16 (by decide)
        · refine j_iload_n 1 dX11_humsTo_72 rfl ?_
          refine j_bipush 6 dX11_humsTo_73 bp_6 ?_
          refine j_icmp_ne (tgt := 84) dX11_humsTo_75 rfl (fun c17 => ?_) (fun c17 => ?_)
          · refine j_iload_n 1 dX11_humsTo_84 rfl ?_
            refine j_iconst 5 dX11_humsTo_85 ic_5 ?_
            refine j_icmp_ne (tgt := 96) dX11_humsTo_86 rfl (fun c18 => ?_) (fun c18 => ?_)
            · refine j_iload 0 dX11_humsTo_96 rfl ?_
              refine j_iret dX11_humsTo_98 rfl ?_
              have hV : noteVL Z.2.2.2.2 (hmL 3) = (noteVL (noteVL (noteV Z.2.2.2.2 12) (tkL 3)) (stL 3)) := by rw [show hmL 3 = 12 :: (tkL 3 ++ stL 3) from rfl]; simp only [noteVL, nl_app]
              have hv : hmV 3 (Z.1 11 i) (nI i) x = ((tkV 3 (Z.1 11 i) (nI i) x) ^^^ (stV 3 (Z.1 11 i) (nI i) (x - (Z.1 11 i)))) := rfl
              rw [hV, hv] at hQ
              exact hQ _ _ ⟨rfl, cv14⟩
            · exact absurd c18 (by decide)
          · exact absurd c17 (by decide)
      · exact absurd c3 (by decide)
    · exact absurd c2 (by decide)
set_option maxRecDepth 20000 in
set_option maxHeartbeats 4000000 in
theorem T_hm4 {d : Nat} {M : jk_M} {Z : ZS} (cv : MV M Z) {q : Nat} (hq : Z.2.2.2.2 10 = nI q) (hq9 : q < 70) (i : Nat) (hi : i < nT Z.1) (hi16 : i < 16) (x : Int32) (hkk : Z.1 10 i = 4) : J Fr_X11_humsTo (d + 3) 0 0 0 [(0, .ref 0), (1, .int (nI i)), (2, .int x)] [] M (jk_ex (some (.int (hmV 4 (Z.1 11 i) (nI i) x))) (fun M1 => MV M1 (vZ Z (noteVL Z.2.2.2.2 (hmL 4))))) := by
  refine j_post (fun Q hQ => ?_)
  have hM := cv.1
  have hl3 := st_len 4
  have hl5 := tk_len 4
  refine j_aload_n 0 dX11_humsTo_0 rfl ?_
  refine j_getr (q := 2) dX11_humsTo_1 fX11_29 (shM hM sgM_0) rfl (rfM hM rfM_0_10) ?_
  refine j_iload_n 1 dX11_humsTo_4 rfl ?_
  refine j_ialdN i dX11_humsTo_5 (shM hM sgM_2) (by omega) (by omega) ?_
  refine j_topi 4 ((mr_arT cv.2.1 (k := 0) hi (by decide)).trans hkk) ?_
  refine j_istore_n (L' := [(3, .int 4), (0, .ref 0), (1, .int (nI i)), (2, .int x)]) dX11_humsTo_6 (by decide) rfl ?_
  refine j_iload_n 0 dX11_humsTo_7 rfl ?_
  refine j_iconst 4 dX11_humsTo_8 ic_4 ?_
  refine j_icmp_eq (tgt := 18) dX11_humsTo_9 rfl (fun c1 => ?_) (fun c1 => ?_)
  · refine j_aload_n 1 dX11_humsTo_18 rfl ?_
    refine j_bipush 50 dX11_humsTo_19 bp_50 ?_
    refine j_callV (kc := 0) (ks := 0) (a := 0) (b := 0) (d' := d) (As := [.int 50]) dX11_humsTo_21 kX11_321 rfl (shM hM sgM_0) (by omega) rfl rfl rfl (Nat.le_of_ble_eq_true rfl) (Nat.le_of_ble_eq_true rfl) (T_X11_body cv (q := q) hq (by omega) 50) (kk_ev (fun M2 hM3 => ?_))
    have cv4 : MV M2 (vZ Z (noteV Z.2.2.2.2 50)) := hM3
    have hq5 : (noteV Z.2.2.2.2 50) 10 = nI (q + 1) := nt_10 hq
    refine j_iload_n 0 dX11_humsTo_24 rfl ?_
    refine j_iconst 5 dX11_humsTo_25 ic_5 ?_
    refine j_icmp_ne (tgt := 35) dX11_humsTo_26 rfl (fun c6 => ?_) (fun c6 => ?_)
    · refine j_aload_n 1 dX11_humsTo_35 rfl ?_
      refine j_bipush 12 dX11_humsTo_36 bp_12 ?_
      refine j_callV (kc := 0) (ks := 0) (a := 0) (b := 0) (d' := d) (As := [.int 12]) dX11_humsTo_38 kX11_321 rfl (shM cv4.1 sgM_0) (by omega) rfl rfl rfl (Nat.le_of_ble_eq_true rfl) (Nat.le_of_ble_eq_true rfl) (T_X11_body cv4 (q := (q + 1)) hq5 (by omega) 12) (kk_ev (fun M7 hM8 => ?_))
      have cv9 : MV M7 (vZ Z (noteV (noteV Z.2.2.2.2 50) 12)) := hM8
      have hq10 : (noteV (noteV Z.2.2.2.2 50) 12) 10 = nI ((q + 1) + 1) := nt_10 hq5
      refine j_aload_n 1 dX11_humsTo_41 rfl ?_
      refine j_iload_n 2 dX11_humsTo_42 rfl ?_
      refine j_iload_n 3 dX11_humsTo_43 rfl ?_
      refine j_callV (kc := 0) (ks := 0) (a := 0) (b := 0) (d' := (d + 2)) (As := [.int (nI i), .int x]) dX11_humsTo_44 kX11_328 rfl (shM cv9.1 sgM_0) (by omega) rfl rfl rfl (Nat.le_of_ble_eq_true rfl) (Nat.le_of_ble_eq_true rfl) (T_tk4 (Z := (vZ Z (noteV (noteV Z.2.2.2.2 50) 12))) cv9 (q := ((q + 1) + 1)) hq10 (by omega) i hi hi16 x hkk) (kk_e (fun M11 hM12 => ?_))
      have cv13 : MV M11 (vZ Z (noteVL (noteV (noteV Z.2.2.2.2 50) 12) (tkL 4))) := hM12
      have hq14 : (noteVL (noteV (noteV Z.2.2.2.2 50) 12) (tkL 4)) 10 = nI (((q + 1) + 1) + (tkL 4).length) := nl_10 _ hq10
      refine j_istore (L' := [(4, .int (tkV 4 (Z.1 11 i) (nI i) x)), (3, .int 4), (0, .ref 0), (1, .int (nI i)), (2, .int x)]) dX11_humsTo_47 (by decide) rfl ?_
      refine j_iload 0 dX11_humsTo_49 rfl ?_
      refine j_aload_n 2 dX11_humsTo_51 rfl ?_
      refine j_iload_n 3 dX11_humsTo_52 rfl ?_
      refine j_iload_n 4 dX11_humsTo_53 rfl ?_
      refine j_aload_n 2 dX11_humsTo_54 rfl ?_
      refine j_getr (q := 3) dX11_humsTo_55 fX11_32 (shM cv13.1 sgM_0) rfl (rfM cv13.1 rfM_0_11) ?_
      refine j_iload_n 3 dX11_humsTo_58 rfl ?_
      refine j_ialdN i dX11_humsTo_59 (shM cv13.1 sgM_3) (by omega) (by omega) ?_
      refine j_topi (Z.1 11 i) (mr_arT cv13.2.1 (k := 1) hi (by decide)) ?_
      refine j_isub dX11_humsTo_60 ?_
      refine j_callV (kc := 0) (ks := 0) (a := 0) (b := 0) (d' := (d + 1)) (As := [.int (nI i), .int (x - (Z.1 11 i))]) dX11_humsTo_61 kX11_325 rfl (shM cv13.1 sgM_0) (by omega) rfl rfl rfl (Nat.le_of_ble_eq_true rfl) (Nat.le_of_ble_eq_true rfl) (T_st4 (Z := (vZ Z (noteVL (noteV (noteV Z.2.2.2.2 50) 12) (tkL 4)))) cv13 (q := (((q + 1) + 1) + (tkL 4).length)) hq14 (by omega) i hi hi16 (x - (Z.1 11 i)) hkk) (kk_e (fun M15 hM16 => ?_))
      have cv17 : MV M15 (vZ Z (noteVL (noteVL (noteV (noteV Z.2.2.2.2 50) 12) (tkL 4)) (stL 4))) := hM16
      have hq18 : (noteVL (noteVL (noteV (noteV Z.2.2.2.2 50) 12) (tkL 4)) (stL 4)) 10 = nI ((((q + 1) + 1) + (tkL 4).length) + (stL 4).length) := nl_10 _ hq14
      refine j_ixor dX11_humsTo_64 ?_
      refine j_istore (L' := [(4, .int ((tkV 4 (Z.1 11 i) (nI i) x) ^^^ (stV 4 (Z.1 11 i) (nI i) (x - (Z.1 11 i))))), (3, .int 4), (0, .ref 0), (1, .int (nI i)), (2, .int x)]) dX11_humsTo_65 (by decide) rfl ?_
      refine j_iload_n 1 dX11_humsTo_67 rfl ?_
      refine j_iconst 4 dX11_humsTo_68 ic_4 ?_
      refine j_icmp_eq (tgt := 78) dX11_humsTo_69 rfl (fun c19 => ?_) (fun c19 => ?_)
      · refine j_iload 0 dX11_humsTo_78 rfl ?_
        refine j_ineg dX11_humsTo_80 ?_
        refine j_goto (tgt := 98) dX11_humsTo_81 rfl ?_
        refine j_iret dX11_humsTo_98 rfl ?_
        have hV : noteVL Z.2.2.2.2 (hmL 4) = (noteVL (noteVL (noteV (noteV Z.2.2.2.2 50) 12) (tkL 4)) (stL 4)) := by rw [show hmL 4 = 50 :: 12 :: (tkL 4 ++ stL 4) from rfl]; simp only [noteVL, nl_app]
        have hv : hmV 4 (Z.1 11 i) (nI i) x = (0 - ((tkV 4 (Z.1 11 i) (nI i) x) ^^^ (stV 4 (Z.1 11 i) (nI i) (x - (Z.1 11 i))))) := rfl
        rw [hV, hv] at hQ
        exact hQ _ _ ⟨rfl, cv17⟩
      · exact absurd c19 (by decide)
    · exact absurd c6 (by decide)
  · exact absurd c1 (by decide)
set_option maxRecDepth 20000 in
set_option maxHeartbeats 4000000 in
theorem T_hm5 {d : Nat} {M : jk_M} {Z : ZS} (cv : MV M Z) {q : Nat} (hq : Z.2.2.2.2 10 = nI q) (hq9 : q < 70) (i : Nat) (hi : i < nT Z.1) (hi16 : i < 16) (x : Int32) (hkk : Z.1 10 i = 5) : J Fr_X11_humsTo (d + 3) 0 0 0 [(0, .ref 0), (1, .int (nI i)), (2, .int x)] [] M (jk_ex (some (.int (hmV 5 (Z.1 11 i) (nI i) x))) (fun M1 => MV M1 (vZ Z (noteVL Z.2.2.2.2 (hmL 5))))) := by
  refine j_post (fun Q hQ => ?_)
  have hM := cv.1
  have hl3 := st_len 5
  have hl5 := tk_len 5
  refine j_aload_n 0 dX11_humsTo_0 rfl ?_
  refine j_getr (q := 2) dX11_humsTo_1 fX11_29 (shM hM sgM_0) rfl (rfM hM rfM_0_10) ?_
  refine j_iload_n 1 dX11_humsTo_4 rfl ?_
  refine j_ialdN i dX11_humsTo_5 (shM hM sgM_2) (by omega) (by omega) ?_
  refine j_topi 5 ((mr_arT cv.2.1 (k := 0) hi (by decide)).trans hkk) ?_
  refine j_istore_n (L' := [(3, .int 5), (0, .ref 0), (1, .int (nI i)), (2, .int x)]) dX11_humsTo_6 (by decide) rfl ?_
  refine j_iload_n 0 dX11_humsTo_7 rfl ?_
  refine j_iconst 4 dX11_humsTo_8 ic_4 ?_
  refine j_icmp_eq (tgt := 18) dX11_humsTo_9 rfl (fun c1 => ?_) (fun c1 => ?_)
  · exact absurd c1 (by decide)
  · refine j_iload_n 0 dX11_humsTo_12 rfl ?_
    refine j_bipush 6 dX11_humsTo_13 bp_6 ?_
    refine j_icmp_ne (tgt := 24) dX11_humsTo_15 rfl (fun c2 => ?_) (fun c2 => ?_)
    · refine j_iload_n 0 dX11_humsTo_24 rfl ?_
      refine j_iconst 5 dX11_humsTo_25 ic_5 ?_
      refine j_icmp_ne (tgt := 35) dX11_humsTo_26 rfl (fun c3 => ?_) (fun c3 => ?_)
      · exact absurd c3 (by decide)
      · refine j_aload_n 1 dX11_humsTo_29 rfl ?_
        refine j_bipush 60 dX11_humsTo_30 bp_60 ?_
        refine j_callV (kc := 0) (ks := 0) (a := 0) (b := 0) (d' := d) (As := [.int 60]) dX11_humsTo_32 kX11_321 rfl (shM hM sgM_0) (by omega) rfl rfl rfl (Nat.le_of_ble_eq_true rfl) (Nat.le_of_ble_eq_true rfl) (T_X11_body cv (q := q) hq (by omega) 60) (kk_ev (fun M4 hM5 => ?_))
        have cv6 : MV M4 (vZ Z (noteV Z.2.2.2.2 60)) := hM5
        have hq7 : (noteV Z.2.2.2.2 60) 10 = nI (q + 1) := nt_10 hq
        refine j_aload_n 1 dX11_humsTo_35 rfl ?_
        refine j_bipush 12 dX11_humsTo_36 bp_12 ?_
        refine j_callV (kc := 0) (ks := 0) (a := 0) (b := 0) (d' := d) (As := [.int 12]) dX11_humsTo_38 kX11_321 rfl (shM cv6.1 sgM_0) (by omega) rfl rfl rfl (Nat.le_of_ble_eq_true rfl) (Nat.le_of_ble_eq_true rfl) (T_X11_body cv6 (q := (q + 1)) hq7 (by omega) 12) (kk_ev (fun M8 hM9 => ?_))
        have cv10 : MV M8 (vZ Z (noteV (noteV Z.2.2.2.2 60) 12)) := hM9
        have hq11 : (noteV (noteV Z.2.2.2.2 60) 12) 10 = nI ((q + 1) + 1) := nt_10 hq7
        refine j_aload_n 1 dX11_humsTo_41 rfl ?_
        refine j_iload_n 2 dX11_humsTo_42 rfl ?_
        refine j_iload_n 3 dX11_humsTo_43 rfl ?_
        refine j_callV (kc := 0) (ks := 0) (a := 0) (b := 0) (d' := (d + 2)) (As := [.int (nI i), .int x]) dX11_humsTo_44 kX11_328 rfl (shM cv10.1 sgM_0) (by omega) rfl rfl rfl (Nat.le_of_ble_eq_true rfl) (Nat.le_of_ble_eq_true rfl) (T_tk5 (Z := (vZ Z (noteV (noteV Z.2.2.2.2 60) 12))) cv10 (q := ((q + 1) + 1)) hq11 (by omega) i hi hi16 x hkk) (kk_e (fun M12 hM13 => ?_))
        have cv14 : MV M12 (vZ Z (noteVL (noteV (noteV Z.2.2.2.2 60) 12) (tkL 5))) := hM13
        have hq15 : (noteVL (noteV (noteV Z.2.2.2.2 60) 12) (tkL 5)) 10 = nI (((q + 1) + 1) + (tkL 5).length) := nl_10 _ hq11
        refine j_istore (L' := [(4, .int (tkV 5 (Z.1 11 i) (nI i) x)), (3, .int 5), (0, .ref 0), (1, .int (nI i)), (2, .int x)]) dX11_humsTo_47 (by decide) rfl ?_
        refine j_iload 0 dX11_humsTo_49 rfl ?_
        refine j_aload_n 2 dX11_humsTo_51 rfl ?_
        refine j_iload_n 3 dX11_humsTo_52 rfl ?_
        refine j_iload_n 4 dX11_humsTo_53 rfl ?_
        refine j_aload_n 2 dX11_humsTo_54 rfl ?_
        refine j_getr (q := 3) dX11_humsTo_55 fX11_32 (shM cv14.1 sgM_0) rfl (rfM cv14.1 rfM_0_11) ?_
        refine j_iload_n 3 dX11_humsTo_58 rfl ?_
        refine j_ialdN i dX11_humsTo_59 (shM cv14.1 sgM_3) (by omega) (by omega) ?_
        refine j_topi (Z.1 11 i) (mr_arT cv14.2.1 (k := 1) hi (by decide)) ?_
        refine j_isub dX11_humsTo_60 ?_
        refine j_callV (kc := 0) (ks := 0) (a := 0) (b := 0) (d' := (d + 1)) (As := [.int (nI i), .int (x - (Z.1 11 i))]) dX11_humsTo_61 kX11_325 rfl (shM cv14.1 sgM_0) (by omega) rfl rfl rfl (Nat.le_of_ble_eq_true rfl) (Nat.le_of_ble_eq_true rfl) (T_st5 (Z := (vZ Z (noteVL (noteV (noteV Z.2.2.2.2 60) 12) (tkL 5)))) cv14 (q := (((q + 1) + 1) + (tkL 5).length)) hq15 (by omega) i hi hi16 (x - (Z.1 11 i)) hkk) (kk_e (fun M16 hM17 => ?_))
        have cv18 : MV M16 (vZ Z (noteVL (noteVL (noteV (noteV Z.2.2.2.2 60) 12) (tkL 5)) (stL 5))) := hM17
        have hq19 : (noteVL (noteVL (noteV (noteV Z.2.2.2.2 60) 12) (tkL 5)) (stL 5)) 10 = nI ((((q + 1) + 1) + (tkL 5).length) + (stL 5).length) := nl_10 _ hq15
        refine j_ixor dX11_humsTo_64 ?_
        refine j_istore (L' := [(4, .int ((tkV 5 (Z.1 11 i) (nI i) x) ^^^ (stV 5 (Z.1 11 i) (nI i) (x - (Z.1 11 i))))), (3, .int 5), (0, .ref 0), (1, .int (nI i)), (2, .int x)]) dX11_humsTo_65 (by decide) rfl ?_
        refine j_iload_n 1 dX11_humsTo_67 rfl ?_
        refine j_iconst 4 dX11_humsTo_68 ic_4 ?_
        refine j_icmp_eq (tgt := 78) dX11_humsTo_69 rfl (fun c20 => ?_) (fun c20 => ?_)
        · exact absurd c20 (by decide)
        · refine j_iload_n 1 dX11_humsTo_72 rfl ?_
          refine j_bipush 6 dX11_humsTo_73 bp_6 ?_
          refine j_icmp_ne (tgt := 84) dX11_humsTo_75 rfl (fun c21 => ?_) (fun c21 => ?_)
          · refine j_iload_n 1 dX11_humsTo_84 rfl ?_
            refine j_iconst 5 dX11_humsTo_85 ic_5 ?_
            refine j_icmp_ne (tgt := 96) dX11_humsTo_86 rfl (fun c22 => ?_) (fun c22 => ?_)
            · exact absurd c22 (by decide)
            · refine j_iload 0 dX11_humsTo_89 rfl ?_
              refine j_iconst 5 dX11_humsTo_91 ic_5 ?_
              refine j_ixor dX11_humsTo_92 ?_
              refine j_goto (tgt := 98) dX11_humsTo_93 rfl ?_
              refine j_iret dX11_humsTo_98 rfl ?_
              have hV : noteVL Z.2.2.2.2 (hmL 5) = (noteVL (noteVL (noteV (noteV Z.2.2.2.2 60) 12) (tkL 5)) (stL 5)) := by rw [show hmL 5 = 60 :: 12 :: (tkL 5 ++ stL 5) from rfl]; simp only [noteVL, nl_app]
              have hv : hmV 5 (Z.1 11 i) (nI i) x = (((tkV 5 (Z.1 11 i) (nI i) x) ^^^ (stV 5 (Z.1 11 i) (nI i) (x - (Z.1 11 i)))) ^^^ 5) := rfl
              rw [hV, hv] at hQ
              exact hQ _ _ ⟨rfl, cv18⟩
          · exact absurd c21 (by decide)
    · exact absurd c2 (by decide)
set_option maxRecDepth 20000 in
set_option maxHeartbeats 4000000 in
theorem T_hm6 {d : Nat} {M : jk_M} {Z : ZS} (cv : MV M Z) {q : Nat} (hq : Z.2.2.2.2 10 = nI q) (hq9 : q < 70) (i : Nat) (hi : i < nT Z.1) (hi16 : i < 16) (x : Int32) (hkk : Z.1 10 i = 6) : J Fr_X11_humsTo (d + 3) 0 0 0 [(0, .ref 0), (1, .int (nI i)), (2, .int x)] [] M (jk_ex (some (.int (hmV 6 (Z.1 11 i) (nI i) x))) (fun M1 => MV M1 (vZ Z (noteVL Z.2.2.2.2 (hmL 6))))) := by
  refine j_post (fun Q hQ => ?_)
  have hM := cv.1
  have hl3 := st_len 6
  have hl5 := tk_len 6
  refine j_aload_n 0 dX11_humsTo_0 rfl ?_
  refine j_getr (q := 2) dX11_humsTo_1 fX11_29 (shM hM sgM_0) rfl (rfM hM rfM_0_10) ?_
  refine j_iload_n 1 dX11_humsTo_4 rfl ?_
  refine j_ialdN i dX11_humsTo_5 (shM hM sgM_2) (by omega) (by omega) ?_
  refine j_topi 6 ((mr_arT cv.2.1 (k := 0) hi (by decide)).trans hkk) ?_
  refine j_istore_n (L' := [(3, .int 6), (0, .ref 0), (1, .int (nI i)), (2, .int x)]) dX11_humsTo_6 (by decide) rfl ?_
  refine j_iload_n 0 dX11_humsTo_7 rfl ?_
  refine j_iconst 4 dX11_humsTo_8 ic_4 ?_
  refine j_icmp_eq (tgt := 18) dX11_humsTo_9 rfl (fun c1 => ?_) (fun c1 => ?_)
  · exact absurd c1 (by decide)
  · refine j_iload_n 0 dX11_humsTo_12 rfl ?_
    refine j_bipush 6 dX11_humsTo_13 bp_6 ?_
    refine j_icmp_ne (tgt := 24) dX11_humsTo_15 rfl (fun c2 => ?_) (fun c2 => ?_)
    · exact absurd c2 (by decide)
    · refine j_aload_n 1 dX11_humsTo_18 rfl ?_
      refine j_bipush 50 dX11_humsTo_19 bp_50 ?_
      refine j_callV (kc := 0) (ks := 0) (a := 0) (b := 0) (d' := d) (As := [.int 50]) dX11_humsTo_21 kX11_321 rfl (shM hM sgM_0) (by omega) rfl rfl rfl (Nat.le_of_ble_eq_true rfl) (Nat.le_of_ble_eq_true rfl) (T_X11_body cv (q := q) hq (by omega) 50) (kk_ev (fun M3 hM4 => ?_))
      have cv5 : MV M3 (vZ Z (noteV Z.2.2.2.2 50)) := hM4
      have hq6 : (noteV Z.2.2.2.2 50) 10 = nI (q + 1) := nt_10 hq
      refine j_iload_n 0 dX11_humsTo_24 rfl ?_
      refine j_iconst 5 dX11_humsTo_25 ic_5 ?_
      refine j_icmp_ne (tgt := 35) dX11_humsTo_26 rfl (fun c7 => ?_) (fun c7 => ?_)
      · refine j_aload_n 1 dX11_humsTo_35 rfl ?_
        refine j_bipush 12 dX11_humsTo_36 bp_12 ?_
        refine j_callV (kc := 0) (ks := 0) (a := 0) (b := 0) (d' := d) (As := [.int 12]) dX11_humsTo_38 kX11_321 rfl (shM cv5.1 sgM_0) (by omega) rfl rfl rfl (Nat.le_of_ble_eq_true rfl) (Nat.le_of_ble_eq_true rfl) (T_X11_body cv5 (q := (q + 1)) hq6 (by omega) 12) (kk_ev (fun M8 hM9 => ?_))
        have cv10 : MV M8 (vZ Z (noteV (noteV Z.2.2.2.2 50) 12)) := hM9
        have hq11 : (noteV (noteV Z.2.2.2.2 50) 12) 10 = nI ((q + 1) + 1) := nt_10 hq6
        refine j_aload_n 1 dX11_humsTo_41 rfl ?_
        refine j_iload_n 2 dX11_humsTo_42 rfl ?_
        refine j_iload_n 3 dX11_humsTo_43 rfl ?_
        refine j_callV (kc := 0) (ks := 0) (a := 0) (b := 0) (d' := (d + 2)) (As := [.int (nI i), .int x]) dX11_humsTo_44 kX11_328 rfl (shM cv10.1 sgM_0) (by omega) rfl rfl rfl (Nat.le_of_ble_eq_true rfl) (Nat.le_of_ble_eq_true rfl) (T_tk6 (Z := (vZ Z (noteV (noteV Z.2.2.2.2 50) 12))) cv10 (q := ((q + 1) + 1)) hq11 (by omega) i hi hi16 x hkk) (kk_e (fun M12 hM13 => ?_))
        have cv14 : MV M12 (vZ Z (noteVL (noteV (noteV Z.2.2.2.2 50) 12) (tkL 6))) := hM13
        have hq15 : (noteVL (noteV (noteV Z.2.2.2.2 50) 12) (tkL 6)) 10 = nI (((q + 1) + 1) + (tkL 6).length) := nl_10 _ hq11
        refine j_istore (L' := [(4, .int (tkV 6 (Z.1 11 i) (nI i) x)), (3, .int 6), (0, .ref 0), (1, .int (nI i)), (2, .int x)]) dX11_humsTo_47 (by decide) rfl ?_
        refine j_iload 0 dX11_humsTo_49 rfl ?_
        refine j_aload_n 2 dX11_humsTo_51 rfl ?_
        refine j_iload_n 3 dX11_humsTo_52 rfl ?_
        refine j_iload_n 4 dX11_humsTo_53 rfl ?_
        refine j_aload_n 2 dX11_humsTo_54 rfl ?_
        refine j_getr (q := 3) dX11_humsTo_55 fX11_32 (shM cv14.1 sgM_0) rfl (rfM cv14.1 rfM_0_11) ?_
        refine j_iload_n 3 dX11_humsTo_58 rfl ?_
        refine j_ialdN i dX11_humsTo_59 (shM cv14.1 sgM_3) (by omega) (by omega) ?_
        refine j_topi (Z.1 11 i) (mr_arT cv14.2.1 (k := 1) hi (by decide)) ?_
        refine j_isub dX11_humsTo_60 ?_
        refine j_callV (kc := 0) (ks := 0) (a := 0) (b := 0) (d' := (d + 1)) (As := [.int (nI i), .int (x - (Z.1 11 i))]) dX11_humsTo_61 kX11_325 rfl (shM cv14.1 sgM_0) (by omega) rfl rfl rfl (Nat.le_of_ble_eq_true rfl) (Nat.le_of_ble_eq_true rfl) (T_st6 (Z := (vZ Z (noteVL (noteV (noteV Z.2.2.2.2 50) 12) (tkL 6)))) cv14 (q := (((q + 1) + 1) + (tkL 6).length)) hq15 (by omega) i hi hi16 (x - (Z.1 11 i)) hkk) (kk_e (fun M16 hM17 => ?_))
        have cv18 : MV M16 (vZ Z (noteVL (noteVL (noteV (noteV Z.2.2.2.2 50) 12) (tkL 6)) (stL 6))) := hM17
        have hq19 : (noteVL (noteVL (noteV (noteV Z.2.2.2.2 50) 12) (tkL 6)) (stL 6)) 10 = nI ((((q + 1) + 1) + (tkL 6).length) + (stL 6).length) := nl_10 _ hq15
        refine j_ixor dX11_humsTo_64 ?_
        refine j_istore (L' := [(4, .int ((tkV 6 (Z.1 11 i) (nI i) x) ^^^ (stV 6 (Z.1 11 i) (nI i) (x - (Z.1 11 i))))), (3, .int 6), (0, .ref 0), (1, .int (nI i)), (2, .int x)]) dX11_humsTo_65 (by decide) rfl ?_
        refine j_iload_n 1 dX11_humsTo_67 rfl ?_
        refine j_iconst 4 dX11_humsTo_68 ic_4 ?_
        refine j_icmp_eq (tgt := 78) dX11_humsTo_69 rfl (fun c20 => ?_) (fun c20 => ?_)
        · exact absurd c20 (by decide)
        · refine j_iload_n 1 dX11_humsTo_72 rfl ?_
          refine j_bipush 6 dX11_humsTo_73 bp_6 ?_
          refine j_icmp_ne (tgt := 84) dX11_humsTo_75 rfl (fun c21 => ?_) (fun c21 => ?_)
          · exact absurd c21 (by decide)
          · refine j_iload 0 dX11_humsTo_78 rfl ?_
            refine j_ineg dX11_humsTo_80 ?_
            refine j_goto (tgt := 98) dX11_humsTo_81 rfl ?_
            refine j_iret dX11_humsTo_98 rfl ?_
            have hV : noteVL Z.2.2.2.2 (hmL 6) = (noteVL (noteVL (noteV (noteV Z.2.2.2.2 50) 12) (tkL 6)) (stL 6)) := by rw [show hmL 6 = 50 :: 12 :: (tkL 6 ++ stL 6) from rfl]; simp only [noteVL, nl_app]
            have hv : hmV 6 (Z.1 11 i) (nI i) x = (0 - ((tkV 6 (Z.1 11 i) (nI i) x) ^^^ (stV 6 (Z.1 11 i) (nI i) (x - (Z.1 11 i))))) := rfl
            rw [hV, hv] at hQ
            exact hQ _ _ ⟨rfl, cv18⟩
      · exact absurd c7 (by decide)
theorem T_hm {d : Nat} {M : jk_M} {Z : ZS} (cv : MV M Z) {q : Nat} (hq : Z.2.2.2.2 10 = nI q) (hq9 : q < 70) (k : Nat) (hk : k < 7) (i : Nat) (hi : i < nT Z.1) (hi16 : i < 16) (x : Int32) (hkk : Z.1 10 i = nI k) : J Fr_X11_humsTo (d + 3) 0 0 0 [(0, .ref 0), (1, .int (nI i)), (2, .int x)] [] M (jk_ex (some (.int (hmV k (Z.1 11 i) (nI i) x))) (fun M1 => MV M1 (vZ Z (noteVL Z.2.2.2.2 (hmL k))))) := by
  have h7 : k = 0 ∨ k = 1 ∨ k = 2 ∨ k = 3 ∨ k = 4 ∨ k = 5 ∨ k = 6 := by omega
  rcases h7 with rfl | rfl | rfl | rfl | rfl | rfl | rfl
  · exact T_hm0 cv hq hq9 i hi hi16 x hkk
  · exact T_hm1 cv hq hq9 i hi hi16 x hkk
  · exact T_hm2 cv hq hq9 i hi hi16 x hkk
  · exact T_hm3 cv hq hq9 i hi hi16 x hkk
  · exact T_hm4 cv hq hq9 i hi hi16 x hkk
  · exact T_hm5 cv hq hq9 i hi hi16 x hkk
  · exact T_hm6 cv hq hq9 i hi hi16 x hkk
theorem MV.r0 {M : jk_M} {Z : ZS} (h : MV M Z) : MV (jk_wI M 0 49 0) (vZ Z (v0 Z.2.2.2.2)) := MV.vz h (Fm.rf.w (Or.inl ⟨rfl, rfl⟩)) (by rw [rd_s, v0, va_up_self]) (fun i hi => by rw [rd_o (by decide), v0, va_up_ne _ _ (by omega)]; exact h.2.2.2.2.2.2.2.2.2.1 i hi) (fun i hi => by rw [v0, va_up_ne _ _ (by omega)])
set_option maxRecDepth 20000 in
set_option maxHeartbeats 4000000 in
theorem N_act0 {d : Nat} {M : jk_M} {Z : ZS} (cv : MV M Z) (ok : Zok Z) (i : Nat) (hi : i < nT Z.1) (k : Nat) (hk : k < 7) (hkk : Z.1 10 i = nI k) (x : Int32) : J Fr_X11_act (d + 4) 0 0 0 [(0, .ref 0), (1, .int (nI i)), (2, .int 0), (3, .int x)] [] M (jk_ex (some (.int (actK Z 0 x i).1)) (fun M1 => MV M1 (actK Z 0 x i).2)) := by
  refine j_post (fun Q hQ => ?_)
  have hM := cv.1
  have hS := cv.2.1
  have okS := ok.1
  have h40 := cv.2.2.2.2.2.2.2.2.2.2.1
  have hT := (Sok.T okS).2
  have hi16 : i < 16 := by omega
  refine j_aload_n 0 dX11_act_0 rfl ?_
  refine j_iconst 0 dX11_act_1 ic_0 ?_
  refine j_put dX11_act_2 fX11_318 (shM hM sgM_0) rfl ?_
  have cv0 : MV (jk_wI M 0 49 0) (vZ Z (v0 Z.2.2.2.2)) := MV.r0 cv
  have hS0 := cv0.2.1
  have hq0 : v0 Z.2.2.2.2 10 = nI 0 := va_up_self _ _ _
  refine j_aload_n 0 dX11_act_5 rfl ?_
  refine j_iload_n 1 dX11_act_6 rfl ?_
  refine j_callV (kc := 0) (ks := 0) (a := 0) (b := 0) (d' := d) (As := [.int (nI i)]) dX11_act_7 kX11_134 rfl (shM cv0.1 sgM_0) (by omega) rfl rfl rfl (Nat.le_of_ble_eq_true rfl) (Nat.le_of_ble_eq_true rfl) (T_X11_isThing cv0.1 hS0 okS (nI i)) (kk_p ?_)
  refine j_if_eqB (p := (0 ≤ (nI i) ∧ (nI i) < nI (nT Z.1))) (tgt := 22) dX11_act_10 rfl (fun c1 => ?_) (fun c1 => ?_)
  · refine j_iconst 0 dX11_act_22 ic_0 ?_
    refine j_iret dX11_act_23 rfl ?_
    exact absurd (show 0 ≤ nI i ∧ nI i < nI (nT Z.1) from ⟨nI_pos' (by omega), nI_lt hi (by omega)⟩) (by assumption)
  · refine j_iload_n 2 dX11_act_13 rfl ?_
    refine j_if_lt (tgt := 22) dX11_act_14 rfl (fun c2 => ?_) (fun c2 => ?_)
    · exact absurd c2 (by decide)
    · refine j_iload_n 2 dX11_act_17 rfl ?_
      refine j_iconst 2 dX11_act_18 ic_2 ?_
      refine j_icmp_le (tgt := 24) dX11_act_19 rfl (fun c3 => ?_) (fun c3 => ?_)
      · refine j_iload_n 2 dX11_act_24 rfl ?_
        refine j_if_ne (tgt := 37) dX11_act_25 rfl (fun c4 => ?_) (fun c4 => ?_)
        · exact absurd c4 (by decide)
        · refine j_aload_n 0 dX11_act_28 rfl ?_
          refine j_iload_n 1 dX11_act_29 rfl ?_
          refine j_iload_n 3 dX11_act_30 rfl ?_
          refine j_callV (kc := 0) (ks := 0) (a := 0) (b := 0) (d' := (d + 1)) (As := [.int (nI i), .int x]) dX11_act_31 kX11_325 rfl (shM cv0.1 sgM_0) (by omega) rfl rfl rfl (Nat.le_of_ble_eq_true rfl) (Nat.le_of_ble_eq_true rfl) (T_st (Z := (vZ Z (v0 Z.2.2.2.2))) cv0 (q := 0) hq0 (by omega) k hk i hi hi16 x hkk) (kk_e (fun M5 hM6 => ?_))
          have cv7 : MV M5 (vZ Z (noteVL (v0 Z.2.2.2.2) (stL k))) := hM6
          have hq8 : (noteVL (v0 Z.2.2.2.2) (stL k)) 10 = nI (0 + (stL k).length) := nl_10 _ hq0
          refine j_goto (tgt := 57) dX11_act_34 rfl ?_
          refine j_iret dX11_act_57 rfl ?_
          have hz : actK Z 0 x i = ((stV k (Z.1 11 i) (nI i) x), vZ Z (noteVL (v0 Z.2.2.2.2) (stL k))) := by
            simp only [actK, hkk, nI_clamp (show k < 2 ^ 31 by omega)]; rfl
          exact hQ _ _ ⟨by rw [hz]; rfl, by rw [hz]; exact cv7⟩
      · exact absurd c3 (by decide)
set_option maxRecDepth 20000 in
set_option maxHeartbeats 4000000 in
theorem N_act1 {d : Nat} {M : jk_M} {Z : ZS} (cv : MV M Z) (ok : Zok Z) (i : Nat) (hi : i < nT Z.1) (k : Nat) (hk : k < 7) (hkk : Z.1 10 i = nI k) (x : Int32) : J Fr_X11_act (d + 4) 0 0 0 [(0, .ref 0), (1, .int (nI i)), (2, .int 1), (3, .int x)] [] M (jk_ex (some (.int (actK Z 1 x i).1)) (fun M1 => MV M1 (actK Z 1 x i).2)) := by
  refine j_post (fun Q hQ => ?_)
  have hM := cv.1
  have hS := cv.2.1
  have okS := ok.1
  have h40 := cv.2.2.2.2.2.2.2.2.2.2.1
  have hT := (Sok.T okS).2
  have hi16 : i < 16 := by omega
  refine j_aload_n 0 dX11_act_0 rfl ?_
  refine j_iconst 0 dX11_act_1 ic_0 ?_
  refine j_put dX11_act_2 fX11_318 (shM hM sgM_0) rfl ?_
  have cv0 : MV (jk_wI M 0 49 0) (vZ Z (v0 Z.2.2.2.2)) := MV.r0 cv
  have hS0 := cv0.2.1
  have hq0 : v0 Z.2.2.2.2 10 = nI 0 := va_up_self _ _ _
  refine j_aload_n 0 dX11_act_5 rfl ?_
  refine j_iload_n 1 dX11_act_6 rfl ?_
  refine j_callV (kc := 0) (ks := 0) (a := 0) (b := 0) (d' := d) (As := [.int (nI i)]) dX11_act_7 kX11_134 rfl (shM cv0.1 sgM_0) (by omega) rfl rfl rfl (Nat.le_of_ble_eq_true rfl) (Nat.le_of_ble_eq_true rfl) (T_X11_isThing cv0.1 hS0 okS (nI i)) (kk_p ?_)
  refine j_if_eqB (p := (0 ≤ (nI i) ∧ (nI i) < nI (nT Z.1))) (tgt := 22) dX11_act_10 rfl (fun c1 => ?_) (fun c1 => ?_)
  · refine j_iconst 0 dX11_act_22 ic_0 ?_
    refine j_iret dX11_act_23 rfl ?_
    exact absurd (show 0 ≤ nI i ∧ nI i < nI (nT Z.1) from ⟨nI_pos' (by omega), nI_lt hi (by omega)⟩) (by assumption)
  · refine j_iload_n 2 dX11_act_13 rfl ?_
    refine j_if_lt (tgt := 22) dX11_act_14 rfl (fun c2 => ?_) (fun c2 => ?_)
    · exact absurd c2 (by decide)
    · refine j_iload_n 2 dX11_act_17 rfl ?_
      refine j_iconst 2 dX11_act_18 ic_2 ?_
      refine j_icmp_le (tgt := 24) dX11_act_19 rfl (fun c3 => ?_) (fun c3 => ?_)
      · refine j_iload_n 2 dX11_act_24 rfl ?_
        refine j_if_ne (tgt := 37) dX11_act_25 rfl (fun c4 => ?_) (fun c4 => ?_)
        · refine j_iload_n 2 dX11_act_37 rfl ?_
          refine j_iconst 1 dX11_act_38 ic_1 ?_
          refine j_icmp_ne (tgt := 51) dX11_act_39 rfl (fun c5 => ?_) (fun c5 => ?_)
          · exact absurd c5 (by decide)
          · refine j_aload_n 0 dX11_act_42 rfl ?_
            refine j_iload_n 1 dX11_act_43 rfl ?_
            refine j_iload_n 3 dX11_act_44 rfl ?_
            refine j_callV (kc := 0) (ks := 0) (a := 0) (b := 0) (d' := (d + 2)) (As := [.int (nI i), .int x]) dX11_act_45 kX11_328 rfl (shM cv0.1 sgM_0) (by omega) rfl rfl rfl (Nat.le_of_ble_eq_true rfl) (Nat.le_of_ble_eq_true rfl) (T_tk (Z := (vZ Z (v0 Z.2.2.2.2))) cv0 (q := 0) hq0 (by omega) k hk i hi hi16 x hkk) (kk_e (fun M6 hM7 => ?_))
            have cv8 : MV M6 (vZ Z (noteVL (v0 Z.2.2.2.2) (tkL k))) := hM7
            have hq9 : (noteVL (v0 Z.2.2.2.2) (tkL k)) 10 = nI (0 + (tkL k).length) := nl_10 _ hq0
            refine j_goto (tgt := 57) dX11_act_48 rfl ?_
            refine j_iret dX11_act_57 rfl ?_
            have hz : actK Z 1 x i = ((tkV k (Z.1 11 i) (nI i) x), vZ Z (noteVL (v0 Z.2.2.2.2) (tkL k))) := by
              simp only [actK, hkk, nI_clamp (show k < 2 ^ 31 by omega)]; rfl
            exact hQ _ _ ⟨by rw [hz]; rfl, by rw [hz]; exact cv8⟩
        · exact absurd c4 (by decide)
      · exact absurd c3 (by decide)
set_option maxRecDepth 20000 in
set_option maxHeartbeats 4000000 in
theorem N_act2 {d : Nat} {M : jk_M} {Z : ZS} (cv : MV M Z) (ok : Zok Z) (i : Nat) (hi : i < nT Z.1) (k : Nat) (hk : k < 7) (hkk : Z.1 10 i = nI k) (x : Int32) : J Fr_X11_act (d + 4) 0 0 0 [(0, .ref 0), (1, .int (nI i)), (2, .int 2), (3, .int x)] [] M (jk_ex (some (.int (actK Z 2 x i).1)) (fun M1 => MV M1 (actK Z 2 x i).2)) := by
  refine j_post (fun Q hQ => ?_)
  have hM := cv.1
  have hS := cv.2.1
  have okS := ok.1
  have h40 := cv.2.2.2.2.2.2.2.2.2.2.1
  have hT := (Sok.T okS).2
  have hi16 : i < 16 := by omega
  refine j_aload_n 0 dX11_act_0 rfl ?_
  refine j_iconst 0 dX11_act_1 ic_0 ?_
  refine j_put dX11_act_2 fX11_318 (shM hM sgM_0) rfl ?_
  have cv0 : MV (jk_wI M 0 49 0) (vZ Z (v0 Z.2.2.2.2)) := MV.r0 cv
  have hS0 := cv0.2.1
  have hq0 : v0 Z.2.2.2.2 10 = nI 0 := va_up_self _ _ _
  refine j_aload_n 0 dX11_act_5 rfl ?_
  refine j_iload_n 1 dX11_act_6 rfl ?_
  refine j_callV (kc := 0) (ks := 0) (a := 0) (b := 0) (d' := d) (As := [.int (nI i)]) dX11_act_7 kX11_134 rfl (shM cv0.1 sgM_0) (by omega) rfl rfl rfl (Nat.le_of_ble_eq_true rfl) (Nat.le_of_ble_eq_true rfl) (T_X11_isThing cv0.1 hS0 okS (nI i)) (kk_p ?_)
  refine j_if_eqB (p := (0 ≤ (nI i) ∧ (nI i) < nI (nT Z.1))) (tgt := 22) dX11_act_10 rfl (fun c1 => ?_) (fun c1 => ?_)
  · refine j_iconst 0 dX11_act_22 ic_0 ?_
    refine j_iret dX11_act_23 rfl ?_
    exact absurd (show 0 ≤ nI i ∧ nI i < nI (nT Z.1) from ⟨nI_pos' (by omega), nI_lt hi (by omega)⟩) (by assumption)
  · refine j_iload_n 2 dX11_act_13 rfl ?_
    refine j_if_lt (tgt := 22) dX11_act_14 rfl (fun c2 => ?_) (fun c2 => ?_)
    · exact absurd c2 (by decide)
    · refine j_iload_n 2 dX11_act_17 rfl ?_
      refine j_iconst 2 dX11_act_18 ic_2 ?_
      refine j_icmp_le (tgt := 24) dX11_act_19 rfl (fun c3 => ?_) (fun c3 => ?_)
      · refine j_iload_n 2 dX11_act_24 rfl ?_
        refine j_if_ne (tgt := 37) dX11_act_25 rfl (fun c4 => ?_) (fun c4 => ?_)
        · refine j_iload_n 2 dX11_act_37 rfl ?_
          refine j_iconst 1 dX11_act_38 ic_1 ?_
          refine j_icmp_ne (tgt := 51) dX11_act_39 rfl (fun c5 => ?_) (fun c5 => ?_)
          · refine j_aload_n 0 dX11_act_51 rfl ?_
            refine j_iload_n 1 dX11_act_52 rfl ?_
            refine j_iload_n 3 dX11_act_53 rfl ?_
            refine j_callV (kc := 0) (ks := 0) (a := 0) (b := 0) (d' := (d + 3)) (As := [.int (nI i), .int x]) dX11_act_54 kX11_331 rfl (shM cv0.1 sgM_0) (by omega) rfl rfl rfl (Nat.le_of_ble_eq_true rfl) (Nat.le_of_ble_eq_true rfl) (T_hm (Z := (vZ Z (v0 Z.2.2.2.2))) cv0 (q := 0) hq0 (by omega) k hk i hi hi16 x hkk) (kk_e (fun M6 hM7 => ?_))
            have cv8 : MV M6 (vZ Z (noteVL (v0 Z.2.2.2.2) (hmL k))) := hM7
            have hq9 : (noteVL (v0 Z.2.2.2.2) (hmL k)) 10 = nI (0 + (hmL k).length) := nl_10 _ hq0
            refine j_iret dX11_act_57 rfl ?_
            have hz : actK Z 2 x i = ((hmV k (Z.1 11 i) (nI i) x), vZ Z (noteVL (v0 Z.2.2.2.2) (hmL k))) := by
              simp only [actK, hkk, nI_clamp (show k < 2 ^ 31 by omega)]; rfl
            exact hQ _ _ ⟨by rw [hz]; rfl, by rw [hz]; exact cv8⟩
          · exact absurd c5 (by decide)
        · exact absurd c4 (by decide)
      · exact absurd c3 (by decide)
set_option maxRecDepth 20000 in
set_option maxHeartbeats 4000000 in
theorem N_actN {d : Nat} {M : jk_M} {Z : ZS} (cv : MV M Z) (ok : Zok Z) (t m x : Int32) (hx : ¬ ((0 ≤ t ∧ t < nI (nT Z.1)) ∧ 0 ≤ m ∧ m ≤ 2)) : J Fr_X11_act (d + 4) 0 0 0 [(0, .ref 0), (1, .int t), (2, .int m), (3, .int x)] [] M (jk_ex (some (.int (((0 : Int32), vZ Z (v0 Z.2.2.2.2))).1)) (fun M1 => MV M1 (((0 : Int32), vZ Z (v0 Z.2.2.2.2))).2)) := by
  refine j_post (fun Q hQ => ?_)
  have hM := cv.1
  have hS := cv.2.1
  have okS := ok.1
  have h40 := cv.2.2.2.2.2.2.2.2.2.2.1
  have hT := (Sok.T okS).2
  refine j_aload_n 0 dX11_act_0 rfl ?_
  refine j_iconst 0 dX11_act_1 ic_0 ?_
  refine j_put dX11_act_2 fX11_318 (shM hM sgM_0) rfl ?_
  have cv0 : MV (jk_wI M 0 49 0) (vZ Z (v0 Z.2.2.2.2)) := MV.r0 cv
  have hS0 := cv0.2.1
  have hq0 : v0 Z.2.2.2.2 10 = nI 0 := va_up_self _ _ _
  refine j_aload_n 0 dX11_act_5 rfl ?_
  refine j_iload_n 1 dX11_act_6 rfl ?_
  refine j_callV (kc := 0) (ks := 0) (a := 0) (b := 0) (d' := d) (As := [.int t]) dX11_act_7 kX11_134 rfl (shM cv0.1 sgM_0) (by omega) rfl rfl rfl (Nat.le_of_ble_eq_true rfl) (Nat.le_of_ble_eq_true rfl) (T_X11_isThing cv0.1 hS0 okS t) (kk_p ?_)
  refine j_if_eqB (p := (0 ≤ t ∧ t < nI (nT Z.1))) (tgt := 22) dX11_act_10 rfl (fun c1 => ?_) (fun c1 => ?_)
  · refine j_iconst 0 dX11_act_22 ic_0 ?_
    refine j_iret dX11_act_23 rfl ?_
    exact hQ _ _ ⟨rfl, cv0⟩
  · refine j_iload_n 2 dX11_act_13 rfl ?_
    refine j_if_lt (tgt := 22) dX11_act_14 rfl (fun c2 => ?_) (fun c2 => ?_)
    · refine j_iconst 0 dX11_act_22 ic_0 ?_
      refine j_iret dX11_act_23 rfl ?_
      exact hQ _ _ ⟨rfl, cv0⟩
    · refine j_iload_n 2 dX11_act_17 rfl ?_
      refine j_iconst 2 dX11_act_18 ic_2 ?_
      refine j_icmp_le (tgt := 24) dX11_act_19 rfl (fun c3 => ?_) (fun c3 => ?_)
      · exact absurd (show (0 ≤ t ∧ t < nI (nT Z.1)) ∧ 0 ≤ m ∧ m ≤ 2 by clear hQ; grind) hx
      · refine j_iconst 0 dX11_act_22 ic_0 ?_
        refine j_iret dX11_act_23 rfl ?_
        exact hQ _ _ ⟨rfl, cv0⟩
theorem N_act {d : Nat} {M : jk_M} {Z : ZS} (cv : MV M Z) (ok : Zok Z) (t m x : Int32) : J Fr_X11_act (d + 4) 0 0 0 [(0, .ref 0), (1, .int t), (2, .int m), (3, .int x)] [] M (jk_ex (some (.int (actZ Z t m x).1)) (fun M1 => MV M1 (actZ Z t m x).2)) := by
  by_cases h : (0 ≤ t ∧ t < nI (nT Z.1)) ∧ 0 ≤ m ∧ m ≤ 2
  · obtain ⟨i, hi, rfl⟩ := i_in (by have := (Sok.T ok.1).2; omega) h.1
    rw [actZ, cif_t h, nI_clamp (by have := (Sok.T ok.1).2; omega)]
    obtain ⟨k, -, hk, hkk⟩ := (ok.1.th hi).1
    have hm := h.2
    have h3 : m = 0 ∨ m = 1 ∨ m = 2 := by grind
    rcases h3 with rfl | rfl | rfl
    · exact N_act0 cv ok i hi k (by omega) hkk x
    · exact N_act1 cv ok i hi k (by omega) hkk x
    · exact N_act2 cv ok i hi k (by omega) hkk x
  · rw [actZ, cif_f h]
    exact N_actN cv ok t m x h
