/-! the model looks -/
def PLk (q k : Nat) : Prop := q = 24 ∨ q = 25 ∨ (q = 0 ∧ k = 39)
theorem PLk_S : ∀ q k, PLk q k → PS q k := fun q k h => by unfold PLk at h; unfold PS; omega
theorem PLk_H : ∀ q k, PH q k → ¬ PLk q k := fun q k h z => PS_H q k h (PLk_S q k z)
def LkO (T : HS) (M : jk_M) : Prop := (∀ c, c < 80 → M.2.1 24 c = lossC T c) ∧ (∀ c, isC T c → M.2.1 25 c.toNatClampNeg = humC T c) ∧ M.2.1 0 39 = dinS T (T 2 0)
/-- the thing of number g is away -/
def GT (g : Int32) (S T : HS) : Prop := EqT S T ∧ (∀ i, i < nT S → nI i = g → T 10 i = 0 ∧ T 11 i = 0) ∧ (∀ i, i < nT S → ¬ nI i = g → T 10 i = S 10 i ∧ T 11 i = S 11 i)
theorem GT.no {S : HS} (ok : Sok S) : GT (-1) S S := ⟨fun _ _ _ _ => rfl, fun i hi e => absurd e (nI_n1 (by have := ok.T.2; omega)), fun _ _ _ => ⟨rfl, rfl⟩⟩
theorem GT.aw {S : HS} (ok : Sok S) {t : Nat} (ht : t < nT S) : GT (nI t) S (awayS S t) := by
  have h16 := ok.T.2
  refine ⟨fun a i h1 h2 => ?_, fun i hi e => ?_, fun i hi e => ?_⟩
  · unfold awayS; rw [upS_n (by omega), upS_n (by omega)]
  · rw [nI_eq (by omega) (by omega)] at e
    subst e
    unfold awayS
    exact ⟨by rw [upS_n (by omega), upS_s], upS_s⟩
  · have e2 : i ≠ t := fun z => e (by rw [z])
    unfold awayS
    exact ⟨by rw [upS_n (by omega), upS_n (by omega)], by rw [upS_n (by omega), upS_n (by omega)]⟩
section GTS
variable {g : Int32} {S T : HS}
theorem GT.tT (h : GT g S T) : nT T = nT S := by simp only [nT]; rw [h.1 7 0 (by decide) (by decide)]
theorem GT.tN (h : GT g S T) : nN T = nN S := by simp only [nN]; rw [h.1 8 0 (by decide) (by decide)]
theorem GT.tS (h : GT g S T) : nS T = nS S := by simp only [nS]; rw [h.1 0 0 (by decide) (by decide)]
theorem GT.tC (h : GT g S T) (c : Int32) : isC T c = isC S c := by simp only [isC]; rw [h.1 0 0 (by decide) (by decide)]
theorem GT.td (h : GT g S T) : dinS T (T 2 0) = dinS S (S 2 0) := by
  rw [h.1 2 0 (by decide) (by decide)]
  unfold dinS
  rw [h.tN]
  exact sm_congr (fun i _ => by rw [h.1 14 i (by decide) (by decide), h.1 15 i (by decide) (by decide)])
theorem hum0 {k a m st : Int32} (h6 : ¬ k = 6) (h4 : ¬ k = 4) (hs : ∃ n, n < 40 ∧ st = nI n) : humK k a m st = 0 := by
  obtain ⟨n, hn, rfl⟩ := hs
  have e0 : (if k = 6 then (10 : Int32) else if k = 4 ∧ m - m / 10 * 10 < a then 20 else 0) = 0 := by rw [if_neg h6, if_neg (fun z => h4 z.1)]
  unfold humK jmax
  rw [e0, show (5 : Int32) = nI 5 from rfl, pk_mul]
  have : ¬ (0 : Int32) < 0 - nI (5 * n) := by
    rw [Int32.lt_iff_toInt_lt]
    have e1 : (nI (5 * n)).toInt = ((5 * n : Nat) : Int) := nI_toInt (by omega)
    have e2 := Jvm.Kit.i32_sub (x := 0) (y := nI (5 * n)) (by rw [e1]; show -2147483648 ≤ (0 : Int) - _; omega) (by rw [e1]; show (0 : Int) - _ < 2147483648; omega)
    rw [e2, e1]
    show ¬ (0 : Int) < 0 - ((5 * n : Nat) : Int)
    omega
  rw [if_neg this]
theorem GT.l0 (h : GT g S T) {i : Nat} (hi : i < nT S) (e : nI i = g) : lossT T i = 0 := by
  unfold lossT
  rw [(h.2.1 i hi e).1, (h.2.1 i hi e).2]; rfl
theorem GT.h0 (h : GT g S T) (ok : Sok T) {i : Nat} (hi : i < nT S) (e : nI i = g) {c : Int32} (hc : isP c) : humT T i c = 0 := by
  unfold humT
  rw [(h.2.1 i hi e).1, (h.2.1 i hi e).2]
  exact hum0 (by decide) (by decide) (sfar_n (isC_P ok (ok.th (by rw [h.tT]; exact hi)).2.2.1) hc)
theorem GT.l1 (h : GT g S T) {i : Nat} (hi : i < nT S) (e : ¬ nI i = g) : lossT T i = lossT S i := by
  unfold lossT
  rw [(h.2.2 i hi e).1, (h.2.2 i hi e).2, h.1 13 i (by decide) (by decide)]
theorem GT.h1 (h : GT g S T) {i : Nat} (hi : i < nT S) (e : ¬ nI i = g) (c : Int32) : humT T i c = humT S i c := by
  unfold humT
  rw [(h.2.2 i hi e).1, (h.2.2 i hi e).2, h.1 12 i (by decide) (by decide), h.1 3 0 (by decide) (by decide)]
theorem GT.hz (h : GT g S T) (ok : Sok T) {i : Nat} (hi : i < nT S) (e : ¬ nI i = g) (h4 : ¬ S 10 i = 4) (h6 : ¬ S 10 i = 6) {c : Int32} (hc : isP c) : humT T i c = 0 := by
  unfold humT
  rw [(h.2.2 i hi e).1]
  exact hum0 h6 h4 (sfar_n (isC_P ok (ok.th (by rw [h.tT]; exact hi)).2.2.1) hc)
end GTS
def LL2 (T : HS) (t : Nat) (M : jk_M) : Prop := ∀ c, c < 80 → M.2.1 24 c = sm (fun j => if T 12 j = nI c then lossT T j else 0) t
def HH2 (T : HS) (t : Nat) (lim : Nat) (M : jk_M) : Prop := ∀ c, c < 80 → isC T (nI c) → M.2.1 25 c = sm (fun j => humT T j (nI c)) (if c < lim then t + 1 else t)
theorem LL2.same {T : HS} {t : Nat} {M M1 : jk_M} (h : LL2 T t M) (e : M1.2.1 24 = M.2.1 24) : LL2 T t M1 := fun c hc => by rw [e]; exact h c hc
theorem HH2.same {T : HS} {t l : Nat} {M M1 : jk_M} (h : HH2 T t l M) (e : M1.2.1 25 = M.2.1 25) : HH2 T t l M1 := fun c hc hi => by rw [e]; exact h c hc hi
theorem LL2.z {T : HS} {t : Nat} {M : jk_M} (h : LL2 T t M) (h0 : lossT T t = 0) : LL2 T (t + 1) M := fun c hc => by
  rw [h c hc, sm, h0]
  split <;> simp
theorem HH2.z {T : HS} {t : Nat} {M : jk_M} (h : HH2 T t 0 M) (h0 : ∀ c, isP c → humT T t c = 0) : HH2 T (t + 1) 0 M := fun c hc hi => by
  rw [h c hc hi, if_neg (by omega), if_neg (by omega), sm, h0 _ (isP_of hc)]
  simp
theorem HH2.st {T : HS} {t r c : Nat} {M : jk_M} (h : HH2 T t (10 * r + c) M) (hc : 10 * r + c < 80) (hC : isC T (nI (10 * r + c))) : HH2 T t (10 * r + (c + 1)) (jk_wI M 25 (10 * r + c) (M.2.1 25 (10 * r + c) + humT T t (nI (10 * r + c)))) := fun e he hi => by
  by_cases z : e = 10 * r + c
  · subst z
    rw [rd_s, h _ hc hC, if_neg (by omega), if_pos (by omega), sm]
  · rw [rd_k z, h e he hi]
    by_cases y : e < 10 * r + c
    · rw [if_pos y, if_pos (by omega)]
    · rw [if_neg y, if_neg (by omega)]
theorem HH2.row {T : HS} {t r c : Nat} {M : jk_M} (ok : Sok T) (h : HH2 T t (10 * r + c) M) (hc : c = nS T) : HH2 T t (10 * (r + 1) + 0) M := fun e he hi => by
  obtain ⟨-, h1, h2, -⟩ := isC_nat ok hi
  rw [nI_clamp (by omega)] at h1 h2
  have := ok.S.2.2
  rw [h e he hi]
  by_cases y : e < 10 * r + c
  · rw [if_pos y, if_pos (by omega)]
  · rw [if_neg y, if_neg (by omega)]
theorem HH2.end {T : HS} {t r : Nat} {M : jk_M} (ok : Sok T) (h : HH2 T t (10 * r + 0) M) (hr : r = nS T) : HH2 T (t + 1) 0 M := fun e he hi => by
  obtain ⟨-, h1, h2, -⟩ := isC_nat ok hi
  rw [nI_clamp (by omega)] at h1 h2
  have := ok.S.2.2
  rw [h e he hi, if_pos (by omega), if_neg (by omega)]
theorem look_fin {g : Int32} {S T : HS} {M : jk_M} (gt : GT g S T) (okT : Sok T) (hl : LL2 T (nT S) M) (hh : HH2 T (nT S) 0 M) (hd : M.2.1 0 39 = dinS S (S 2 0)) : LkO T M := by
  refine ⟨fun c hc => ?_, fun c hc => ?_, by rw [gt.td]; exact hd⟩
  · unfold lossC; rw [gt.tT]; exact hl c hc
  · have hp := isP_nat (isC_P okT hc)
    have h2 := hh c.toNatClampNeg hp.2 (by rw [← hp.1]; exact hc)
    rw [h2, if_neg (by omega), ← hp.1]
    unfold humC; rw [gt.tT]
theorem T_lossG {d : Nat} {M : jk_M} {S : HS} (hM : WM M) (hS : mv M.2.1 = S) (ok : Sok S) (t : Nat) (ht : t < nT S) {x : Int32} (e : lossT S t = x) : J Fr_X11_loss d 0 0 0 [(0, .ref 0), (1, .int (nI t))] [] M (jk_is (some (.int x)) M) := by
  subst e; exact T_X11_loss hM hS ok t ht
theorem T_humsG {d : Nat} {M : jk_M} {S : HS} (hM : WM M) (hS : mv M.2.1 = S) (ok : Sok S) (t : Nat) (ht : t < nT S) (c : Int32) (hc : isP c) {x : Int32} (e : humT S t c = x) : J Fr_X11_hums (d + 2) 0 0 0 [(0, .ref 0), (1, .int (nI t)), (2, .int c)] [] M (jk_is (some (.int x)) M) := by
  subst e; exact T_X11_hums hM hS ok t ht c hc
theorem Fm.rd {P : Nat → Nat → Prop} {M M1 : jk_M} {q k : Nat} (h : Fm P M M1) (hp : ¬ P q k) : M1.2.1 q k = M.2.1 q k := h.2.2 q k hp
set_option maxRecDepth 20000 in
set_option maxHeartbeats 4000000 in
theorem T_X11_looks {d : Nat} {M : jk_M} {S : HS} (hM : WM M) (hS : mv M.2.1 = S) (ok : Sok S) {T : HS} {g : Int32} (h40 : M.2.1 0 40 = g) (gt : GT g S T) (okT : Sok T) : J Fr_X11_looks (d + 3) 0 0 0 [(0, .ref 0)] [] M (jk_ex none (fun M1 => Fm PLk M M1 ∧ LkO T M1)) := by
  refine j_post (fun Q hQ => ?_)
  have hT := (Sok.T ok).2
  have hN := (Sok.N ok).2
  have hS8 := (Sok.S ok).2.2
  refine j_iconst 0 dX11_looks_0 ic_0 ?_
  refine j_istore_n (L' := [(1, .int 0), (0, .ref 0)]) dX11_looks_1 (by decide) rfl ?_
  have lp3 : ∀ (k1 : Nat) (i : Nat) (M1 : jk_M), 80 - i < k1 → (i ≤ 80) → (Fm PLk M M1) → (∀ c, c < i → M1.2.1 24 c = 0 ∧ M1.2.1 25 c = 0) → J Fr_X11_looks (d + 3) 0 0 2 [(0, .ref 0), (1, .int (nI i))] [] M1 Q := by
    intro k1
    induction k1 with
    | zero => intro i M1 hk; exact absurd hk (Nat.not_lt_zero _)
    | succ k1 ih2 =>
      intro i M1 hk1 hi hs1 h0
      refine j_iload_n 1 dX11_looks_2 rfl ?_
      refine j_bipush 80 dX11_looks_3 bp_80 ?_
      refine j_icmp_geN (tgt := 28) i 80 dX11_looks_5 rfl (by omega) (by omega) (fun c4 => ?_) (fun c4 => ?_)
      · refine j_iconst 0 dX11_looks_28 ic_0 ?_
        refine j_istore_n (L' := [(1, .int 0), (0, .ref 0)]) dX11_looks_29 (by decide) rfl ?_
        have lp7 : ∀ (k5 : Nat) (t : Nat) (M1 : jk_M), nT S - t < k5 → (t ≤ nT S) → (Fm PLk M M1) → (LL2 T t M1) → (HH2 T t 0 M1) → J Fr_X11_looks (d + 3) 0 0 30 [(0, .ref 0), (1, .int (nI t))] [] M1 Q := by
          intro k5
          induction k5 with
          | zero => intro t M1 hk; exact absurd hk (Nat.not_lt_zero _)
          | succ k5 ih6 =>
            intro t M1 hk5 ht hs1 hl hh
            refine j_iload_n 1 dX11_looks_30 rfl ?_
            refine j_aload_n 0 dX11_looks_31 rfl ?_
            refine j_getv (nI (nT S)) dX11_looks_32 fX11_123 (shM (Fm.M hs1 hM) sgM_0) rfl ((mr_T (Fm.mv hs1 hS PLk_H)).trans (Sok.T ok).1) ?_
            refine j_icmp_geN (tgt := 155) t (nT S) dX11_looks_35 rfl (by omega) (by omega) (fun c8 => ?_) (fun c8 => ?_)
            · have et : t = nT S := by omega
              subst et
              refine j_aload_n 0 dX11_looks_155 rfl ?_
              refine j_iconst 0 dX11_looks_156 ic_0 ?_
              refine j_put dX11_looks_157 fX11_245 (shM (Fm.M hs1 hM) sgM_0) rfl ?_
              have sm9 : Fm PLk M (jk_wI M1 0 39 0) := Fm.w hs1 (by unfold PLk; omega)
              refine j_iconst 0 dX11_looks_160 ic_0 ?_
              refine j_istore_n (L' := [(1, .int 0), (0, .ref 0)]) dX11_looks_161 (by decide) rfl ?_
              have lp12 : ∀ (k10 : Nat) (n : Nat) (M4 : jk_M), nN S - n < k10 → (n ≤ nN S) → (Fm PLk M M4) → (LL2 T (nT S) M4) → (HH2 T (nT S) 0 M4) → (M4.2.1 0 39 = sm (fun j => noiseO (S 15 j) (S 14 j - S 2 0)) n) → J Fr_X11_looks (d + 3) 0 0 162 [(0, .ref 0), (1, .int (nI n))] [] M4 Q := by
                intro k10
                induction k10 with
                | zero => intro n M4 hk; exact absurd hk (Nat.not_lt_zero _)
                | succ k10 ih11 =>
                  intro n M4 hk10 hn hs4 hl4 hh4 hd
                  refine j_iload_n 1 dX11_looks_162 rfl ?_
                  refine j_aload_n 0 dX11_looks_163 rfl ?_
                  refine j_getv (nI (nN S)) dX11_looks_164 fX11_144 (shM (Fm.M hs4 hM) sgM_0) rfl ((mr_N (Fm.mv hs4 hS PLk_H)).trans (Sok.N ok).1) ?_
                  refine j_icmp_geN (tgt := 205) n (nN S) dX11_looks_167 rfl (by omega) (by omega) (fun c13 => ?_) (fun c13 => ?_)
                  · refine j_vret dX11_looks_205 rfl ?_
                    have e : n = nN S := by omega
                    subst e
                    exact hQ _ _ ⟨rfl, hs4, look_fin gt okT hl4 hh4 hd⟩
                  · refine j_aload_n 0 dX11_looks_170 rfl ?_
                    refine j_dup dX11_looks_171 rfl ?_
                    refine j_getv (sm (fun j => noiseO (S 15 j) (S 14 j - S 2 0)) n) dX11_looks_172 fX11_245 (shM (Fm.M hs4 hM) sgM_0) rfl hd ?_
                    refine j_aload_n 0 dX11_looks_175 rfl ?_
                    refine j_aload_n 0 dX11_looks_176 rfl ?_
                    refine j_getr (q := 7) dX11_looks_177 fX11_44 (shM (Fm.M hs4 hM) sgM_0) rfl (rfM (Fm.M hs4 hM) rfM_0_15) ?_
                    refine j_iload_n 1 dX11_looks_180 rfl ?_
                    refine j_ialdN n dX11_looks_181 (shM (Fm.M hs4 hM) sgM_7) (by omega) (by omega) ?_
                    refine j_topi (S 15 n) (mr_arN (Fm.mv hs4 hS PLk_H) (k := 1) (by omega) (by decide)) ?_
                    refine j_aload_n 0 dX11_looks_182 rfl ?_
                    refine j_getr (q := 6) dX11_looks_183 fX11_41 (shM (Fm.M hs4 hM) sgM_0) rfl (rfM (Fm.M hs4 hM) rfM_0_14) ?_
                    refine j_iload_n 1 dX11_looks_186 rfl ?_
                    refine j_ialdN n dX11_looks_187 (shM (Fm.M hs4 hM) sgM_6) (by omega) (by omega) ?_
                    refine j_topi (S 14 n) (mr_arN (Fm.mv hs4 hS PLk_H) (k := 0) (by omega) (by decide)) ?_
                    refine j_aload_n 0 dX11_looks_188 rfl ?_
                    refine j_getv (S 2 0) dX11_looks_189 fX11_16 (shM (Fm.M hs4 hM) sgM_0) rfl (mr_cha (Fm.mv hs4 hS PLk_H)) ?_
                    refine j_callV (kc := 0) (ks := 0) (a := 0) (b := 0) (d' := (d + 1)) (As := [.int (S 15 n), .int (S 14 n), .int (S 2 0)]) dX11_looks_192 kX11_248 rfl (shM (Fm.M hs4 hM) sgM_0) (by omega) rfl rfl rfl (Nat.le_of_ble_eq_true rfl) (Nat.le_of_ble_eq_true rfl) (T_X11_dinOf (Fm.M hs4 hM) (S 15 n) (S 14 n) (S 2 0) (ok.ne (by omega)).1 ok.2.2.1) (kk_p ?_)
                    refine j_iadd dX11_looks_195 ?_
                    refine j_put dX11_looks_196 fX11_245 (shM (Fm.M hs4 hM) sgM_0) rfl ?_
                    have sm14 : Fm PLk M (jk_wI M4 0 39 ((sm (fun j => noiseO (S 15 j) (S 14 j - S 2 0)) n) + (noiseO (S 15 n) ((S 14 n) - (S 2 0))))) := Fm.w hs4 (by unfold PLk; omega)
                    refine j_iinc 1 (nI (n + 1)) (L' := [(1, .int (nI (n + 1))), (0, .ref 0)]) dX11_looks_199 rfl (inc1 n) (by decide) rfl ?_
                    refine j_goto (tgt := 162) dX11_looks_202 rfl ?_
                    exact j_sub (jk_pick [1, 0] rfl) (ih11 (n + 1) (jk_wI M4 0 39 ((sm (fun j => noiseO (S 15 j) (S 14 j - S 2 0)) n) + (noiseO (S 15 n) ((S 14 n) - (S 2 0))))) (by omega) (by omega) sm14 (hl4.same (by funext z; exact rd_o (by decide))) (hh4.same (by funext z; exact rd_o (by decide))) rd_s)
              exact j_sub (jk_pick [1, 0] rfl) (lp12 _ 0 (jk_wI M1 0 39 0) (Nat.lt_succ_self _) (by omega) sm9 (hl.same (by funext z; exact rd_o (by decide))) (hh.same (by funext z; exact rd_o (by decide))) rd_s)
            · refine j_iload_n 1 dX11_looks_38 rfl ?_
              refine j_aload_n 0 dX11_looks_39 rfl ?_
              refine j_getv g dX11_looks_40 fX11_102 (shM (Fm.M hs1 hM) sgM_0) rfl ((Fm.rd hs1 (by unfold PLk; omega)).trans h40) ?_
              refine j_icmp_ne (tgt := 49) dX11_looks_43 rfl (fun c15 => ?_) (fun c15 => ?_)
              · have hng : ¬ nI t = g := c15
                have gl : lossT T t = lossT S t := gt.l1 (by omega) hng
                have hct2 := cT_ok okT (i := t) (by rw [gt.tT]; omega)
                have hct : S 12 t = nI (cT T t) := (gt.1 12 t (by decide) (by decide)).symm.trans hct2.1
                have hc8 := hct2.2
                refine j_aload_n 0 dX11_looks_49 rfl ?_
                refine j_getr (q := 24) dX11_looks_50 fX11_96 (shM (Fm.M hs1 hM) sgM_0) rfl (rfM (Fm.M hs1 hM) rfM_0_37) ?_
                refine j_aload_n 0 dX11_looks_53 rfl ?_
                refine j_getr (q := 4) dX11_looks_54 fX11_35 (shM (Fm.M hs1 hM) sgM_0) rfl (rfM (Fm.M hs1 hM) rfM_0_12) ?_
                refine j_iload_n 1 dX11_looks_57 rfl ?_
                refine j_ialdN t dX11_looks_58 (shM (Fm.M hs1 hM) sgM_4) (by omega) (by omega) ?_
                refine j_topi (nI (cT T t)) ((mr_arT (Fm.mv hs1 hS PLk_H) (k := 2) (by omega) (by decide)).trans hct) ?_
                refine j_dup2 dX11_looks_59 rfl rfl ?_
                refine j_ialdN (cT T t) dX11_looks_60 (shM (Fm.M hs1 hM) sgM_24) (by omega) (by omega) ?_
                refine j_aload_n 0 dX11_looks_61 rfl ?_
                refine j_iload_n 1 dX11_looks_62 rfl ?_
                refine j_callV (kc := 0) (ks := 0) (a := 0) (b := 0) (d' := d) (As := [.int (nI t)]) dX11_looks_63 kX11_141 rfl (shM (Fm.M hs1 hM) sgM_0) (by omega) rfl rfl rfl (Nat.le_of_ble_eq_true rfl) (Nat.le_of_ble_eq_true rfl) (T_lossG (Fm.M hs1 hM) (Fm.mv hs1 hS PLk_H) ok t (by omega) gl.symm) (kk_p ?_)
                refine j_iadd dX11_looks_66 ?_
                refine j_iastN (cT T t) dX11_looks_67 (shM (Fm.M hs1 hM) sgM_24) (by omega) (by omega) ?_
                have sm16 : Fm PLk M (jk_wI M1 24 (cT T t) ((M1.2.1 24 (cT T t)) + (lossT T t))) := Fm.w hs1 (by unfold PLk; omega)
                have hl2 : LL2 T (t + 1) (jk_wI M1 24 (cT T t) ((M1.2.1 24 (cT T t)) + (lossT T t))) := loss_step okT (by rw [gt.tT]; omega) hl
                have hk25 : (jk_wI M1 24 (cT T t) ((M1.2.1 24 (cT T t)) + (lossT T t))).2.1 25 = M1.2.1 25 := by funext z; exact rd_o (by decide)
                refine j_aload_n 0 dX11_looks_68 rfl ?_
                refine j_getr (q := 2) dX11_looks_69 fX11_29 (shM (Fm.M sm16 hM) sgM_0) rfl (rfM (Fm.M sm16 hM) rfM_0_10) ?_
                refine j_iload_n 1 dX11_looks_72 rfl ?_
                refine j_ialdN t dX11_looks_73 (shM (Fm.M sm16 hM) sgM_2) (by omega) (by omega) ?_
                refine j_topi (S 10 t) (mr_arT (Fm.mv sm16 hS PLk_H) (k := 0) (by omega) (by decide)) ?_
                refine j_iconst 4 dX11_looks_74 ic_4 ?_
                refine j_icmp_eq (tgt := 92) dX11_looks_75 rfl (fun c17 => ?_) (fun c17 => ?_)
                · refine j_iconst 0 dX11_looks_92 ic_0 ?_
                  refine j_istore_n (L' := [(2, .int 0), (0, .ref 0), (1, .int (nI t))]) dX11_looks_93 (by decide) rfl ?_
                  have lp20 : ∀ (k18 : Nat) (r : Nat) (M2 : jk_M), nS S - r < k18 → (r ≤ nS S) → (Fm PLk M M2) → (LL2 T (t + 1) M2) → (HH2 T t (10 * r + 0) M2) → J Fr_X11_looks (d + 3) 0 0 94 [(0, .ref 0), (1, .int (nI t)), (2, .int (nI r))] [] M2 Q := by
                    intro k18
                    induction k18 with
                    | zero => intro r M2 hk; exact absurd hk (Nat.not_lt_zero _)
                    | succ k18 ih19 =>
                      intro r M2 hk18 hr hs2 hlr hhr
                      refine j_iload_n 2 dX11_looks_94 rfl ?_
                      refine j_aload_n 0 dX11_looks_95 rfl ?_
                      refine j_getv (nI (nS S)) dX11_looks_96 fX11_7 (shM (Fm.M hs2 hM) sgM_0) rfl ((mr_side (Fm.mv hs2 hS PLk_H)).trans (Sok.S ok).1) ?_
                      refine j_icmp_geN (tgt := 149) r (nS S) dX11_looks_99 rfl (by omega) (by omega) (fun c21 => ?_) (fun c21 => ?_)
                      · refine j_iinc 1 (nI (t + 1)) (L' := [(1, .int (nI (t + 1))), (0, .ref 0), (2, .int (nI r))]) dX11_looks_149 rfl (inc1 t) (by decide) rfl ?_
                        refine j_goto (tgt := 30) dX11_looks_152 rfl ?_
                        exact j_sub (jk_pick [1, 0] rfl) (ih6 (t + 1) M2 (by omega) (by omega) hs2 hlr (hhr.end okT (by have := gt.tS; omega)))
                      · refine j_iconst 0 dX11_looks_102 ic_0 ?_
                        refine j_istore_n (L' := [(3, .int 0), (0, .ref 0), (1, .int (nI t)), (2, .int (nI r))]) dX11_looks_103 (by decide) rfl ?_
                        have lp24 : ∀ (k22 : Nat) (c : Nat) (M3 : jk_M), nS S - c < k22 → (c ≤ nS S) → (Fm PLk M M3) → (LL2 T (t + 1) M3) → (HH2 T t (10 * r + c) M3) → J Fr_X11_looks (d + 3) 0 0 104 [(0, .ref 0), (1, .int (nI t)), (2, .int (nI r)), (3, .int (nI c))] [] M3 Q := by
                          intro k22
                          induction k22 with
                          | zero => intro c M3 hk; exact absurd hk (Nat.not_lt_zero _)
                          | succ k22 ih23 =>
                            intro c M3 hk22 hc hs3 hlc hhc
                            refine j_iload_n 3 dX11_looks_104 rfl ?_
                            refine j_aload_n 0 dX11_looks_105 rfl ?_
                            refine j_getv (nI (nS S)) dX11_looks_106 fX11_7 (shM (Fm.M hs3 hM) sgM_0) rfl ((mr_side (Fm.mv hs3 hS PLk_H)).trans (Sok.S ok).1) ?_
                            refine j_icmp_geN (tgt := 143) c (nS S) dX11_looks_109 rfl (by omega) (by omega) (fun c25 => ?_) (fun c25 => ?_)
                            · refine j_iinc 2 (nI (r + 1)) (L' := [(2, .int (nI (r + 1))), (0, .ref 0), (1, .int (nI t)), (3, .int (nI c))]) dX11_looks_143 rfl (inc1 r) (by decide) rfl ?_
                              refine j_goto (tgt := 94) dX11_looks_146 rfl ?_
                              exact j_sub (jk_pick [1, 2, 0] rfl) (ih19 (r + 1) M3 (by omega) (by omega) hs3 hlc (hhc.row okT (by have := gt.tS; omega)))
                            · refine j_aload_n 0 dX11_looks_112 rfl ?_
                              refine j_getr (q := 25) dX11_looks_113 fX11_99 (shM (Fm.M hs3 hM) sgM_0) rfl (rfM (Fm.M hs3 hM) rfM_0_38) ?_
                              refine j_bipush 10 dX11_looks_116 bp_10 ?_
                              refine j_iload_n 2 dX11_looks_118 rfl ?_
                              refine j_imulN 10 r dX11_looks_119 ?_
                              refine j_iload_n 3 dX11_looks_120 rfl ?_
                              refine j_iaddN (10 * r) c dX11_looks_121 ?_
                              refine j_dup2 dX11_looks_122 rfl rfl ?_
                              refine j_ialdN ((10 * r) + c) dX11_looks_123 (shM (Fm.M hs3 hM) sgM_25) (by omega) (by omega) ?_
                              refine j_aload_n 0 dX11_looks_124 rfl ?_
                              refine j_iload_n 1 dX11_looks_125 rfl ?_
                              refine j_bipush 10 dX11_looks_126 bp_10 ?_
                              refine j_iload_n 2 dX11_looks_128 rfl ?_
                              refine j_imulN 10 r dX11_looks_129 ?_
                              refine j_iload_n 3 dX11_looks_130 rfl ?_
                              refine j_iaddN (10 * r) c dX11_looks_131 ?_
                              refine j_callV (kc := 0) (ks := 0) (a := 0) (b := 0) (d' := (d + 2)) (As := [.int (nI t), .int (nI ((10 * r) + c))]) dX11_looks_132 kX11_137 rfl (shM (Fm.M hs3 hM) sgM_0) (by omega) rfl rfl rfl (Nat.le_of_ble_eq_true rfl) (Nat.le_of_ble_eq_true rfl) (T_humsG (Fm.M hs3 hM) (Fm.mv hs3 hS PLk_H) ok t (by omega) (nI ((10 * r) + c)) (isP_of (by omega)) (gt.h1 (by omega) hng _).symm) (kk_p ?_)
                              refine j_iadd dX11_looks_135 ?_
                              refine j_iastN ((10 * r) + c) dX11_looks_136 (shM (Fm.M hs3 hM) sgM_25) (by omega) (by omega) ?_
                              have sm26 : Fm PLk M (jk_wI M3 25 ((10 * r) + c) ((M3.2.1 25 ((10 * r) + c)) + (humT T t (nI ((10 * r) + c))))) := Fm.w hs3 (by unfold PLk; omega)
                              refine j_iinc 3 (nI (c + 1)) (L' := [(3, .int (nI (c + 1))), (0, .ref 0), (1, .int (nI t)), (2, .int (nI r))]) dX11_looks_137 rfl (inc1 c) (by decide) rfl ?_
                              refine j_goto (tgt := 104) dX11_looks_140 rfl ?_
                              exact j_sub (jk_pick [1, 2, 3, 0] rfl) (ih23 (c + 1) (jk_wI M3 25 ((10 * r) + c) ((M3.2.1 25 ((10 * r) + c)) + (humT T t (nI ((10 * r) + c))))) (by omega) (by omega) sm26 (hlc.same (by funext z; exact rd_o (by decide))) (hhc.st (by omega) (by rw [gt.tC]; exact isC_of ok (by omega) (by omega) (by omega))))
                        exact j_sub (jk_pick [1, 2, 3, 0] rfl) (lp24 _ 0 M2 (Nat.lt_succ_self _) (by omega) hs2 hlr hhr)
                  exact j_sub (jk_pick [1, 2, 0] rfl) (lp20 _ 0 (jk_wI M1 24 (cT T t) ((M1.2.1 24 (cT T t)) + (lossT T t))) (Nat.lt_succ_self _) (by omega) sm16 hl2 (hh.same hk25))
                · refine j_aload_n 0 dX11_looks_78 rfl ?_
                  refine j_getr (q := 2) dX11_looks_79 fX11_29 (shM (Fm.M sm16 hM) sgM_0) rfl (rfM (Fm.M sm16 hM) rfM_0_10) ?_
                  refine j_iload_n 1 dX11_looks_82 rfl ?_
                  refine j_ialdN t dX11_looks_83 (shM (Fm.M sm16 hM) sgM_2) (by omega) (by omega) ?_
                  refine j_topi (S 10 t) (mr_arT (Fm.mv sm16 hS PLk_H) (k := 0) (by omega) (by decide)) ?_
                  refine j_bipush 6 dX11_looks_84 bp_6 ?_
                  refine j_icmp_eq (tgt := 92) dX11_looks_86 rfl (fun c27 => ?_) (fun c27 => ?_)
                  · refine j_iconst 0 dX11_looks_92 ic_0 ?_
                    refine j_istore_n (L' := [(2, .int 0), (0, .ref 0), (1, .int (nI t))]) dX11_looks_93 (by decide) rfl ?_
                    have lp30 : ∀ (k28 : Nat) (r : Nat) (M2 : jk_M), nS S - r < k28 → (r ≤ nS S) → (Fm PLk M M2) → (LL2 T (t + 1) M2) → (HH2 T t (10 * r + 0) M2) → J Fr_X11_looks (d + 3) 0 0 94 [(0, .ref 0), (1, .int (nI t)), (2, .int (nI r))] [] M2 Q := by
                      intro k28
                      induction k28 with
                      | zero => intro r M2 hk; exact absurd hk (Nat.not_lt_zero _)
                      | succ k28 ih29 =>
                        intro r M2 hk28 hr hs2 hlr hhr
                        refine j_iload_n 2 dX11_looks_94 rfl ?_
                        refine j_aload_n 0 dX11_looks_95 rfl ?_
                        refine j_getv (nI (nS S)) dX11_looks_96 fX11_7 (shM (Fm.M hs2 hM) sgM_0) rfl ((mr_side (Fm.mv hs2 hS PLk_H)).trans (Sok.S ok).1) ?_
                        refine j_icmp_geN (tgt := 149) r (nS S) dX11_looks_99 rfl (by omega) (by omega) (fun c31 => ?_) (fun c31 => ?_)
                        · refine j_iinc 1 (nI (t + 1)) (L' := [(1, .int (nI (t + 1))), (0, .ref 0), (2, .int (nI r))]) dX11_looks_149 rfl (inc1 t) (by decide) rfl ?_
                          refine j_goto (tgt := 30) dX11_looks_152 rfl ?_
                          exact j_sub (jk_pick [1, 0] rfl) (ih6 (t + 1) M2 (by omega) (by omega) hs2 hlr (hhr.end okT (by have := gt.tS; omega)))
                        · refine j_iconst 0 dX11_looks_102 ic_0 ?_
                          refine j_istore_n (L' := [(3, .int 0), (0, .ref 0), (1, .int (nI t)), (2, .int (nI r))]) dX11_looks_103 (by decide) rfl ?_
                          have lp34 : ∀ (k32 : Nat) (c : Nat) (M3 : jk_M), nS S - c < k32 → (c ≤ nS S) → (Fm PLk M M3) → (LL2 T (t + 1) M3) → (HH2 T t (10 * r + c) M3) → J Fr_X11_looks (d + 3) 0 0 104 [(0, .ref 0), (1, .int (nI t)), (2, .int (nI r)), (3, .int (nI c))] [] M3 Q := by
                            intro k32
                            induction k32 with
                            | zero => intro c M3 hk; exact absurd hk (Nat.not_lt_zero _)
                            | succ k32 ih33 =>
                              intro c M3 hk32 hc hs3 hlc hhc
                              refine j_iload_n 3 dX11_looks_104 rfl ?_
                              refine j_aload_n 0 dX11_looks_105 rfl ?_
                              refine j_getv (nI (nS S)) dX11_looks_106 fX11_7 (shM (Fm.M hs3 hM) sgM_0) rfl ((mr_side (Fm.mv hs3 hS PLk_H)).trans (Sok.S ok).1) ?_
                              refine j_icmp_geN (tgt := 143) c (nS S) dX11_looks_109 rfl (by omega) (by omega) (fun c35 => ?_) (fun c35 => ?_)
                              · refine j_iinc 2 (nI (r + 1)) (L' := [(2, .int (nI (r + 1))), (0, .ref 0), (1, .int (nI t)), (3, .int (nI c))]) dX11_looks_143 rfl (inc1 r) (by decide) rfl ?_
                                refine j_goto (tgt := 94) dX11_looks_146 rfl ?_
                                exact j_sub (jk_pick [1, 2, 0] rfl) (ih29 (r + 1) M3 (by omega) (by omega) hs3 hlc (hhc.row okT (by have := gt.tS; omega)))
                              · refine j_aload_n 0 dX11_looks_112 rfl ?_
                                refine j_getr (q := 25) dX11_looks_113 fX11_99 (shM (Fm.M hs3 hM) sgM_0) rfl (rfM (Fm.M hs3 hM) rfM_0_38) ?_
                                refine j_bipush 10 dX11_looks_116 bp_10 ?_
                                refine j_iload_n 2 dX11_looks_118 rfl ?_
                                refine j_imulN 10 r dX11_looks_119 ?_
                                refine j_iload_n 3 dX11_looks_120 rfl ?_
                                refine j_iaddN (10 * r) c dX11_looks_121 ?_
                                refine j_dup2 dX11_looks_122 rfl rfl ?_
                                refine j_ialdN ((10 * r) + c) dX11_looks_123 (shM (Fm.M hs3 hM) sgM_25) (by omega) (by omega) ?_
                                refine j_aload_n 0 dX11_looks_124 rfl ?_
                                refine j_iload_n 1 dX11_looks_125 rfl ?_
                                refine j_bipush 10 dX11_looks_126 bp_10 ?_
                                refine j_iload_n 2 dX11_looks_128 rfl ?_
                                refine j_imulN 10 r dX11_looks_129 ?_
                                refine j_iload_n 3 dX11_looks_130 rfl ?_
                                refine j_iaddN (10 * r) c dX11_looks_131 ?_
                                refine j_callV (kc := 0) (ks := 0) (a := 0) (b := 0) (d' := (d + 2)) (As := [.int (nI t), .int (nI ((10 * r) + c))]) dX11_looks_132 kX11_137 rfl (shM (Fm.M hs3 hM) sgM_0) (by omega) rfl rfl rfl (Nat.le_of_ble_eq_true rfl) (Nat.le_of_ble_eq_true rfl) (T_humsG (Fm.M hs3 hM) (Fm.mv hs3 hS PLk_H) ok t (by omega) (nI ((10 * r) + c)) (isP_of (by omega)) (gt.h1 (by omega) hng _).symm) (kk_p ?_)
                                refine j_iadd dX11_looks_135 ?_
                                refine j_iastN ((10 * r) + c) dX11_looks_136 (shM (Fm.M hs3 hM) sgM_25) (by omega) (by omega) ?_
                                have sm36 : Fm PLk M (jk_wI M3 25 ((10 * r) + c) ((M3.2.1 25 ((10 * r) + c)) + (humT T t (nI ((10 * r) + c))))) := Fm.w hs3 (by unfold PLk; omega)
                                refine j_iinc 3 (nI (c + 1)) (L' := [(3, .int (nI (c + 1))), (0, .ref 0), (1, .int (nI t)), (2, .int (nI r))]) dX11_looks_137 rfl (inc1 c) (by decide) rfl ?_
                                refine j_goto (tgt := 104) dX11_looks_140 rfl ?_
                                exact j_sub (jk_pick [1, 2, 3, 0] rfl) (ih33 (c + 1) (jk_wI M3 25 ((10 * r) + c) ((M3.2.1 25 ((10 * r) + c)) + (humT T t (nI ((10 * r) + c))))) (by omega) (by omega) sm36 (hlc.same (by funext z; exact rd_o (by decide))) (hhc.st (by omega) (by rw [gt.tC]; exact isC_of ok (by omega) (by omega) (by omega))))
                          exact j_sub (jk_pick [1, 2, 3, 0] rfl) (lp34 _ 0 M2 (Nat.lt_succ_self _) (by omega) hs2 hlr hhr)
                    exact j_sub (jk_pick [1, 2, 0] rfl) (lp30 _ 0 (jk_wI M1 24 (cT T t) ((M1.2.1 24 (cT T t)) + (lossT T t))) (Nat.lt_succ_self _) (by omega) sm16 hl2 (hh.same hk25))
                  · refine j_goto (tgt := 149) dX11_looks_89 rfl ?_
                    refine j_iinc 1 (nI (t + 1)) (L' := [(1, .int (nI (t + 1))), (0, .ref 0)]) dX11_looks_149 rfl (inc1 t) (by decide) rfl ?_
                    refine j_goto (tgt := 30) dX11_looks_152 rfl ?_
                    exact j_sub (jk_pick [1, 0] rfl) (ih6 (t + 1) (jk_wI M1 24 (cT T t) ((M1.2.1 24 (cT T t)) + (lossT T t))) (by omega) (by omega) sm16 hl2 ((hh.same hk25).z (fun c hc => gt.hz okT (by omega) hng c17 c27 hc)))
              · refine j_goto (tgt := 149) dX11_looks_46 rfl ?_
                refine j_iinc 1 (nI (t + 1)) (L' := [(1, .int (nI (t + 1))), (0, .ref 0)]) dX11_looks_149 rfl (inc1 t) (by decide) rfl ?_
                refine j_goto (tgt := 30) dX11_looks_152 rfl ?_
                exact j_sub (jk_pick [1, 0] rfl) (ih6 (t + 1) M1 (by omega) (by omega) hs1 (hl.z (gt.l0 (by omega) c15)) (hh.z (fun c hc => gt.h0 okT (by omega) c15 hc)))
        exact j_sub (jk_pick [1, 0] rfl) (lp7 _ 0 M1 (Nat.lt_succ_self _) (by omega) hs1 (fun c hc => (h0 c (by omega)).1) (fun c hc hi => by rw [if_neg (by omega)]; exact (h0 c (by omega)).2))
      · refine j_aload_n 0 dX11_looks_8 rfl ?_
        refine j_getr (q := 24) dX11_looks_9 fX11_96 (shM (Fm.M hs1 hM) sgM_0) rfl (rfM (Fm.M hs1 hM) rfM_0_37) ?_
        refine j_iload_n 1 dX11_looks_12 rfl ?_
        refine j_iconst 0 dX11_looks_13 ic_0 ?_
        refine j_iastN i dX11_looks_14 (shM (Fm.M hs1 hM) sgM_24) (by omega) (by omega) ?_
        have sm37 : Fm PLk M (jk_wI M1 24 i 0) := Fm.w hs1 (by unfold PLk; omega)
        refine j_aload_n 0 dX11_looks_15 rfl ?_
        refine j_getr (q := 25) dX11_looks_16 fX11_99 (shM (Fm.M sm37 hM) sgM_0) rfl (rfM (Fm.M sm37 hM) rfM_0_38) ?_
        refine j_iload_n 1 dX11_looks_19 rfl ?_
        refine j_iconst 0 dX11_looks_20 ic_0 ?_
        refine j_iastN i dX11_looks_21 (shM (Fm.M sm37 hM) sgM_25) (by omega) (by omega) ?_
        have sm38 : Fm PLk M (jk_wI (jk_wI M1 24 i 0) 25 i 0) := Fm.w sm37 (by unfold PLk; omega)
        refine j_iinc 1 (nI (i + 1)) (L' := [(1, .int (nI (i + 1))), (0, .ref 0)]) dX11_looks_22 rfl (inc1 i) (by decide) rfl ?_
        refine j_goto (tgt := 2) dX11_looks_25 rfl ?_
        exact j_sub (jk_pick [1, 0] rfl) (ih2 (i + 1) (jk_wI (jk_wI M1 24 i 0) 25 i 0) (by omega) (by omega) sm38 (fun c hc => by
          by_cases e : c = i
          · subst e; exact ⟨(rd_o (by decide)).trans rd_s, rd_s⟩
          · exact ⟨(rd_o (by decide)).trans ((rd_k e).trans (h0 c (by omega)).1), (rd_k e).trans ((rd_o (by decide)).trans (h0 c (by omega)).2)⟩))
  exact j_sub (jk_pick [1, 0] rfl) (lp3 _ 0 M (Nat.lt_succ_self _) (by omega) Fm.rf (fun c hc => absurd hc (Nat.not_lt_zero c)))
