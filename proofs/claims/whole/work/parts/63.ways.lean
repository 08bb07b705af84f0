/-! ways, step by step -/
def lnR (L : Nat → Int32) (r c k : Nat) : Int32 := if c < k then acr L (10 * r + k) - acr L (10 * r + c) else acr L (10 * r + c) - L (10 * r + c) - acr L (10 * r + k) + L (10 * r + k)
def lnC (L : Nat → Int32) (c r k : Nat) : Int32 := if r < k then dwn L (10 * k + c) - dwn L (10 * r + c) else dwn L (10 * r + c) - L (10 * r + c) - dwn L (10 * k + c) + L (10 * k + c)
theorem lnR_0 {L : Nat → Int32} {r c : Nat} : lnR L r c c = 0 := by
  rw [lnR, if_neg (by omega)]; grind
theorem lnC_0 {L : Nat → Int32} {r c : Nat} : lnC L c r r = 0 := by
  rw [lnC, if_neg (by omega)]; grind
theorem lnR_u {L : Nat → Int32} {r c k : Nat} (h : c ≤ k) (hk : k < 9) : lnR L r c k + L (10 * r + (k + 1)) = lnR L r c (k + 1) := by
  have e := acr_s (L := L) (c := 10 * r + (k + 1)) (by omega)
  rw [show 10 * r + (k + 1) - 1 = 10 * r + k by omega] at e
  rw [lnR, lnR, if_pos (show c < k + 1 by omega), e]
  by_cases hc : c < k
  · rw [if_pos hc]; grind
  · rw [if_neg hc, show c = k by omega]; grind
theorem lnR_d {L : Nat → Int32} {r c k : Nat} (h : k ≤ c) (hk : 1 ≤ k) (hc : c < 10) : lnR L r c k + L (10 * r + (k - 1)) = lnR L r c (k - 1) := by
  have e := acr_s (L := L) (c := 10 * r + k) (by omega)
  rw [show 10 * r + k - 1 = 10 * r + (k - 1) by omega] at e
  rw [lnR, lnR, if_neg (by omega), if_neg (by omega), e]
  grind
theorem lnC_u {L : Nat → Int32} {r c k : Nat} (h : r ≤ k) (hc : c < 10) : lnC L c r k + L (10 * (k + 1) + c) = lnC L c r (k + 1) := by
  have e := dwn_s (L := L) (c := 10 * (k + 1) + c) (by omega)
  rw [show 10 * (k + 1) + c - 10 = 10 * k + c by omega] at e
  rw [lnC, lnC, if_pos (show r < k + 1 by omega), e]
  by_cases hr : r < k
  · rw [if_pos hr]; grind
  · rw [if_neg hr, show r = k by omega]; grind
theorem lnC_d {L : Nat → Int32} {r c k : Nat} (h : k ≤ r) (hk : 1 ≤ k) (hc : c < 10) : lnC L c r k + L (10 * (k - 1) + c) = lnC L c r (k - 1) := by
  have e := dwn_s (L := L) (c := 10 * k + c) (by omega)
  rw [show 10 * k + c - 10 = 10 * (k - 1) + c by omega] at e
  rw [lnC, lnC, if_neg (by omega), if_neg (by omega), e]
  grind
theorem alngN {V L : Nat → Int32} {a b : Nat} (ha : a < 80) (hb : b < 80) : alng V L (nI a) (nI b) = if a < b then V b - V a else V a - L a - V b + L b := by
  have n1 : ¬ (¬ isP (nI a) ∨ ¬ isP (nI b)) := fun z => z.elim (fun y => y (isP_of ha)) (fun y => y (isP_of hb))
  rw [alng, @if_neg _ (Classical.propDecidable _) n1, nI_clamp (by omega), nI_clamp (by omega)]
  by_cases h : a < b
  · rw [if_pos h, if_pos ((nI_ltI (by omega) (by omega)).mpr h)]
  · rw [if_neg h, if_neg (fun z => h ((nI_ltI (by omega) (by omega)).mp z))]
theorem alng_R {L : Nat → Int32} {r c k : Nat} (hr : r < 8) (hc : c < 10) (hk : k < 10) : alng (acr L) L (nI (10 * r + c)) (nI (10 * r + k)) = lnR L r c k := by
  rw [alngN (by omega) (by omega), lnR]
  by_cases h : c < k
  · rw [if_pos h, if_pos (by omega)]
  · rw [if_neg h, if_neg (by omega)]
theorem alng_C {L : Nat → Int32} {r c k : Nat} (hr : r < 8) (hk : k < 8) (hc : c < 10) : alng (dwn L) L (nI (10 * r + c)) (nI (10 * k + c)) = lnC L c r k := by
  rw [alngN (by omega) (by omega), lnC]
  by_cases h : r < k
  · rw [if_pos h, if_pos (by omega)]
  · rw [if_neg h, if_neg (by omega)]
def wayN (L : Nat → Int32) (f t : Nat) : Int32 := if lnR L (f / 10) (f % 10) (t % 10) + lnC L (t % 10) (f / 10) (t / 10) < lnR L (t / 10) (f % 10) (t % 10) + lnC L (f % 10) (f / 10) (t / 10) then lnR L (f / 10) (f % 10) (t % 10) + lnC L (t % 10) (f / 10) (t / 10) else lnR L (t / 10) (f % 10) (t % 10) + lnC L (f % 10) (f / 10) (t / 10)
theorem way_e {S : HS} {f t : Nat} (hf : f < 80) (ht : t < 80) : wayS S (nI f) (nI t) = wayN (lossC S) f t := by
  have ef : nI f = nI (10 * (f / 10) + f % 10) := congrArg nI (by omega)
  have et : nI t = nI (10 * (t / 10) + t % 10) := congrArg nI (by omega)
  have e1 : nI f / 10 * 10 + (nI t - nI t / 10 * 10) = nI (10 * (f / 10) + t % 10) := by
    rw [show (10 : Int32) = nI 10 from rfl, pk_rem (by omega) (by decide) (by decide), pk_div (by omega) (by decide) (by decide), pk_mul, nI_add]
    exact congrArg nI (by omega)
  have e2 : nI t / 10 * 10 + (nI f - nI f / 10 * 10) = nI (10 * (t / 10) + f % 10) := by
    rw [show (10 : Int32) = nI 10 from rfl, pk_rem (by omega) (by decide) (by decide), pk_div (by omega) (by decide) (by decide), pk_mul, nI_add]
    exact congrArg nI (by omega)
  unfold wayS wayN
  rw [e1, e2, ef, et, alng_R (by omega) (by omega) (by omega), alng_C (by omega) (by omega) (by omega), alng_C (by omega) (by omega) (by omega), alng_R (by omega) (by omega) (by omega)]
  unfold jmin
  generalize lnR (lossC S) (f / 10) (f % 10) (t % 10) + lnC (lossC S) (t % 10) (f / 10) (t / 10) = A
  rw [Int32.add_comm (lnC (lossC S) (f % 10) (f / 10) (t / 10))]
  generalize lnR (lossC S) (t / 10) (f % 10) (t % 10) + lnC (lossC S) (f % 10) (f / 10) (t / 10) = B
  grind
theorem nI_m1 {k : Nat} (h : 1 ≤ k) : nI k + (-1) = nI (k - 1) := by
  obtain ⟨j, rfl⟩ : ∃ j, k = j + 1 := ⟨k - 1, by omega⟩
  rw [nI_succ]
  show nI j + 1 + -1 = nI j
  grind
set_option maxRecDepth 20000 in
set_option maxHeartbeats 4000000 in
theorem T_wayN {d : Nat} {M : jk_M} {L : Nat → Int32} (hM : WM M) (hL : ∀ c, c < 80 → M.2.1 24 c = L c) (f t : Nat) (hf : f < 80) (hf8 : f % 10 < 8) (ht : t < 80) (ht8 : t % 10 < 8) : J Fr_X11_wayLoss d 0 0 0 [(0, .ref 0), (1, .int (nI f)), (2, .int (nI t))] [] M (jk_is (some (.int (wayN L f t))) M) := by
  refine j_post (fun Q hQ => ?_)
  refine j_iload_n 1 dX11_wayLoss_0 rfl ?_
  refine j_bipush 10 dX11_wayLoss_1 bp_10 ?_
  refine j_idivN f 10 dX11_wayLoss_3 (by omega) (by omega) (by omega) ?_
  refine j_istore_n (L' := [(3, .int (nI (f / 10))), (0, .ref 0), (1, .int (nI f)), (2, .int (nI t))]) dX11_wayLoss_4 (by decide) rfl ?_
  refine j_iload_n 2 dX11_wayLoss_5 rfl ?_
  refine j_bipush 10 dX11_wayLoss_6 bp_10 ?_
  refine j_iremN f 10 dX11_wayLoss_8 (by omega) (by omega) (by omega) ?_
  refine j_istore (L' := [(4, .int (nI (f % 10))), (3, .int (nI (f / 10))), (0, .ref 0), (1, .int (nI f)), (2, .int (nI t))]) dX11_wayLoss_9 (by decide) rfl ?_
  refine j_iload_n 4 dX11_wayLoss_11 rfl ?_
  refine j_bipush 10 dX11_wayLoss_12 bp_10 ?_
  refine j_idivN t 10 dX11_wayLoss_14 (by omega) (by omega) (by omega) ?_
  refine j_istore (L' := [(5, .int (nI (t / 10))), (4, .int (nI (f % 10))), (3, .int (nI (f / 10))), (0, .ref 0), (1, .int (nI f)), (2, .int (nI t))]) dX11_wayLoss_15 (by decide) rfl ?_
  refine j_iload_n 5 dX11_wayLoss_17 rfl ?_
  refine j_bipush 10 dX11_wayLoss_18 bp_10 ?_
  refine j_iremN t 10 dX11_wayLoss_20 (by omega) (by omega) (by omega) ?_
  refine j_istore (L' := [(6, .int (nI (t % 10))), (5, .int (nI (t / 10))), (4, .int (nI (f % 10))), (3, .int (nI (f / 10))), (0, .ref 0), (1, .int (nI f)), (2, .int (nI t))]) dX11_wayLoss_21 (by decide) rfl ?_
  refine j_iconst 0 dX11_wayLoss_23 ic_0 ?_
  refine j_istore (L' := [(7, .int 0), (6, .int (nI (t % 10))), (5, .int (nI (t / 10))), (4, .int (nI (f % 10))), (3, .int (nI (f / 10))), (0, .ref 0), (1, .int (nI f)), (2, .int (nI t))]) dX11_wayLoss_24 (by decide) rfl ?_
  refine j_iconst 0 dX11_wayLoss_26 ic_0 ?_
  refine j_istore (L' := [(8, .int 0), (7, .int 0), (6, .int (nI (t % 10))), (5, .int (nI (t / 10))), (4, .int (nI (f % 10))), (3, .int (nI (f / 10))), (0, .ref 0), (1, .int (nI f)), (2, .int (nI t))]) dX11_wayLoss_27 (by decide) rfl ?_
  refine j_iload 4 dX11_wayLoss_29 rfl ?_
  refine j_istore (L' := [(9, .int (nI (f % 10))), (8, .int 0), (7, .int 0), (6, .int (nI (t % 10))), (5, .int (nI (t / 10))), (4, .int (nI (f % 10))), (3, .int (nI (f / 10))), (0, .ref 0), (1, .int (nI f)), (2, .int (nI t))]) dX11_wayLoss_31 (by decide) rfl ?_
  have z1 : (0 : Int32) = (lnR L (f / 10) (f % 10) (f % 10)) := lnR_0.symm
  have z2 : (0 : Int32) = (lnR L (t / 10) (f % 10) (f % 10)) := lnR_0.symm
  refine j_L (congrArg (fun zz9 : Int32 => ([(9, .int (nI (f % 10))), (8, .int 0), (7, .int zz9), (6, .int (nI (t % 10))), (5, .int (nI (t / 10))), (4, .int (nI (f % 10))), (3, .int (nI (f / 10))), (0, .ref 0), (1, .int (nI f)), (2, .int (nI t))] : List (Nat × Value))) z1) ?_
  refine j_L (congrArg (fun zz9 : Int32 => ([(9, .int (nI (f % 10))), (8, .int zz9), (7, .int (lnR L (f / 10) (f % 10) (f % 10))), (6, .int (nI (t % 10))), (5, .int (nI (t / 10))), (4, .int (nI (f % 10))), (3, .int (nI (f / 10))), (0, .ref 0), (1, .int (nI f)), (2, .int (nI t))] : List (Nat × Value))) z2) ?_
  have lp3 : ∀ (k1 : Nat) (k : Nat), ((t % 10) - k) + (k - (t % 10)) < k1 → (((f % 10) ≤ k ∧ k ≤ (t % 10)) ∨ ((t % 10) ≤ k ∧ k ≤ (f % 10))) → J Fr_X11_wayLoss d 0 0 33 [(0, .ref 0), (1, .int (nI f)), (2, .int (nI t)), (3, .int (nI (f / 10))), (4, .int (nI (f % 10))), (5, .int (nI (t / 10))), (6, .int (nI (t % 10))), (7, .int (lnR L (f / 10) (f % 10) k)), (8, .int (lnR L (t / 10) (f % 10) k)), (9, .int (nI k))] [] M Q := by
    intro k1
    induction k1 with
    | zero => intro k hk; exact absurd hk (Nat.not_lt_zero _)
    | succ k1 ih2 =>
      intro k hk1 hk
      refine j_iload 9 dX11_wayLoss_33 rfl ?_
      refine j_iload 6 dX11_wayLoss_35 rfl ?_
      refine j_icmp_eqN (tgt := 95) k (t % 10) dX11_wayLoss_37 rfl (by omega) (by omega) (fun c4 => ?_) (fun c4 => ?_)
      · have ek : k = t % 10 := by omega
        refine j_iload_n 3 dX11_wayLoss_95 rfl ?_
        refine j_istore (L' := [(9, .int (nI (f / 10))), (0, .ref 0), (1, .int (nI f)), (2, .int (nI t)), (3, .int (nI (f / 10))), (4, .int (nI (f % 10))), (5, .int (nI (t / 10))), (6, .int (nI (t % 10))), (7, .int (lnR L (f / 10) (f % 10) k)), (8, .int (lnR L (t / 10) (f % 10) k))]) dX11_wayLoss_96 (by decide) rfl ?_
        have z3 : (lnR L (f / 10) (f % 10) k) = ((lnR L (f / 10) (f % 10) (t % 10)) + (lnC L (t % 10) (f / 10) (f / 10))) := by rw [ek, lnC_0]; grind
        have z4 : (lnR L (t / 10) (f % 10) k) = ((lnR L (t / 10) (f % 10) (t % 10)) + (lnC L (f % 10) (f / 10) (f / 10))) := by rw [ek, lnC_0]; grind
        refine j_L (congrArg (fun zz9 : Int32 => ([(9, .int (nI (f / 10))), (0, .ref 0), (1, .int (nI f)), (2, .int (nI t)), (3, .int (nI (f / 10))), (4, .int (nI (f % 10))), (5, .int (nI (t / 10))), (6, .int (nI (t % 10))), (7, .int zz9), (8, .int (lnR L (t / 10) (f % 10) k))] : List (Nat × Value))) z3) ?_
        refine j_L (congrArg (fun zz9 : Int32 => ([(9, .int (nI (f / 10))), (0, .ref 0), (1, .int (nI f)), (2, .int (nI t)), (3, .int (nI (f / 10))), (4, .int (nI (f % 10))), (5, .int (nI (t / 10))), (6, .int (nI (t % 10))), (7, .int ((lnR L (f / 10) (f % 10) (t % 10)) + (lnC L (t % 10) (f / 10) (f / 10)))), (8, .int zz9)] : List (Nat × Value))) z4) ?_
        have lp7 : ∀ (k5 : Nat) (k : Nat), ((t / 10) - k) + (k - (t / 10)) < k5 → (((f / 10) ≤ k ∧ k ≤ (t / 10)) ∨ ((t / 10) ≤ k ∧ k ≤ (f / 10))) → J Fr_X11_wayLoss d 0 0 98 [(0, .ref 0), (1, .int (nI f)), (2, .int (nI t)), (3, .int (nI (f / 10))), (4, .int (nI (f % 10))), (5, .int (nI (t / 10))), (6, .int (nI (t % 10))), (7, .int ((lnR L (f / 10) (f % 10) (t % 10)) + (lnC L (t % 10) (f / 10) k))), (8, .int ((lnR L (t / 10) (f % 10) (t % 10)) + (lnC L (f % 10) (f / 10) k))), (9, .int (nI k))] [] M Q := by
          intro k5
          induction k5 with
          | zero => intro k hk; exact absurd hk (Nat.not_lt_zero _)
          | succ k5 ih6 =>
            intro k hk5 hk
            refine j_iload 9 dX11_wayLoss_98 rfl ?_
            refine j_iload 5 dX11_wayLoss_100 rfl ?_
            refine j_icmp_eqN (tgt := 161) k (t / 10) dX11_wayLoss_102 rfl (by omega) (by omega) (fun c8 => ?_) (fun c8 => ?_)
            · have ek2 : k = t / 10 := by omega
              subst ek2
              refine j_iload 7 dX11_wayLoss_161 rfl ?_
              refine j_iload 8 dX11_wayLoss_163 rfl ?_
              refine j_icmp_ge (tgt := 173) dX11_wayLoss_165 rfl (fun c9 => ?_) (fun c9 => ?_)
              · refine j_iload 8 dX11_wayLoss_173 rfl ?_
                refine j_iret dX11_wayLoss_175 rfl ?_
                exact hQ _ _ ⟨by rw [wayN, if_neg (Int32.not_lt.mpr c9)], rfl⟩
              · refine j_iload 7 dX11_wayLoss_168 rfl ?_
                refine j_goto (tgt := 175) dX11_wayLoss_170 rfl ?_
                refine j_iret dX11_wayLoss_175 rfl ?_
                exact hQ _ _ ⟨by rw [wayN, if_pos (Int32.not_le.mp c9)], rfl⟩
            · refine j_iload 9 dX11_wayLoss_105 rfl ?_
              refine j_iload 5 dX11_wayLoss_107 rfl ?_
              refine j_iload 9 dX11_wayLoss_109 rfl ?_
              refine j_icmp_leN (tgt := 118) (t / 10) k dX11_wayLoss_111 rfl (by omega) (by omega) (fun c10 => ?_) (fun c10 => ?_)
              · refine j_iconst (-1) dX11_wayLoss_118 ic_n1 ?_
                refine j_iadd dX11_wayLoss_119 ?_
                refine j_topi (nI (k - 1)) (nI_m1 (by omega)) ?_
                refine j_istore (L' := [(9, .int (nI (k - 1))), (0, .ref 0), (1, .int (nI f)), (2, .int (nI t)), (3, .int (nI (f / 10))), (4, .int (nI (f % 10))), (5, .int (nI (t / 10))), (6, .int (nI (t % 10))), (7, .int ((lnR L (f / 10) (f % 10) (t % 10)) + (lnC L (t % 10) (f / 10) k))), (8, .int ((lnR L (t / 10) (f % 10) (t % 10)) + (lnC L (f % 10) (f / 10) k)))]) dX11_wayLoss_120 (by decide) rfl ?_
                refine j_iload 8 dX11_wayLoss_122 rfl ?_
                refine j_aload_n 1 dX11_wayLoss_124 rfl ?_
                refine j_getr (q := 24) dX11_wayLoss_125 fX11_96 (shM hM sgM_0) rfl (rfM hM rfM_0_37) ?_
                refine j_bipush 10 dX11_wayLoss_128 bp_10 ?_
                refine j_iload 0 dX11_wayLoss_130 rfl ?_
                refine j_imulN 10 (k - 1) dX11_wayLoss_132 ?_
                refine j_iload 7 dX11_wayLoss_133 rfl ?_
                refine j_iaddN (10 * (k - 1)) (t % 10) dX11_wayLoss_135 ?_
                refine j_ialdN ((10 * (k - 1)) + (t % 10)) dX11_wayLoss_136 (shM hM sgM_24) (by omega) (by omega) ?_
                refine j_topi (L (((10 * (k - 1)) + (t % 10)))) (hL _ (by omega)) ?_
                refine j_iadd dX11_wayLoss_137 ?_
                refine j_istore (L' := [(7, .int (((lnR L (f / 10) (f % 10) (t % 10)) + (lnC L (t % 10) (f / 10) k)) + (L (((10 * (k - 1)) + (t % 10)))))), (9, .int (nI (k - 1))), (0, .ref 0), (1, .int (nI f)), (2, .int (nI t)), (3, .int (nI (f / 10))), (4, .int (nI (f % 10))), (5, .int (nI (t / 10))), (6, .int (nI (t % 10))), (8, .int ((lnR L (t / 10) (f % 10) (t % 10)) + (lnC L (f % 10) (f / 10) k)))]) dX11_wayLoss_138 (by decide) rfl ?_
                refine j_iload 9 dX11_wayLoss_140 rfl ?_
                refine j_aload_n 2 dX11_wayLoss_142 rfl ?_
                refine j_getr (q := 24) dX11_wayLoss_143 fX11_96 (shM hM sgM_0) rfl (rfM hM rfM_0_37) ?_
                refine j_bipush 10 dX11_wayLoss_146 bp_10 ?_
                refine j_iload 1 dX11_wayLoss_148 rfl ?_
                refine j_imulN 10 (k - 1) dX11_wayLoss_150 ?_
                refine j_iload 6 dX11_wayLoss_151 rfl ?_
                refine j_iaddN (10 * (k - 1)) (f % 10) dX11_wayLoss_153 ?_
                refine j_ialdN ((10 * (k - 1)) + (f % 10)) dX11_wayLoss_154 (shM hM sgM_24) (by omega) (by omega) ?_
                refine j_topi (L (((10 * (k - 1)) + (f % 10)))) (hL _ (by omega)) ?_
                refine j_iadd dX11_wayLoss_155 ?_
                refine j_istore (L' := [(8, .int (((lnR L (t / 10) (f % 10) (t % 10)) + (lnC L (f % 10) (f / 10) k)) + (L (((10 * (k - 1)) + (f % 10)))))), (7, .int (((lnR L (f / 10) (f % 10) (t % 10)) + (lnC L (t % 10) (f / 10) k)) + (L (((10 * (k - 1)) + (t % 10)))))), (9, .int (nI (k - 1))), (0, .ref 0), (1, .int (nI f)), (2, .int (nI t)), (3, .int (nI (f / 10))), (4, .int (nI (f % 10))), (5, .int (nI (t / 10))), (6, .int (nI (t % 10)))]) dX11_wayLoss_156 (by decide) rfl ?_
                refine j_goto (tgt := 98) dX11_wayLoss_158 rfl ?_
                have hb7 : (((lnR L (f / 10) (f % 10) (t % 10)) + (lnC L (t % 10) (f / 10) k)) + (L (((10 * (k - 1)) + (t % 10))))) = ((lnR L (f / 10) (f % 10) (t % 10)) + (lnC L (t % 10) (f / 10) (k - 1))) := by
                  rw [← lnC_d (by omega) (by omega) (by omega)]
                  grind
                refine j_L (congrArg (fun zz9 : Int32 => ([(8, .int (((lnR L (t / 10) (f % 10) (t % 10)) + (lnC L (f % 10) (f / 10) k)) + (L (((10 * (k - 1)) + (f % 10)))))), (7, .int zz9), (9, .int (nI (k - 1))), (0, .ref 0), (1, .int (nI f)), (2, .int (nI t)), (3, .int (nI (f / 10))), (4, .int (nI (f % 10))), (5, .int (nI (t / 10))), (6, .int (nI (t % 10)))] : List (Nat × Value))) hb7) ?_
                have hb8 : (((lnR L (t / 10) (f % 10) (t % 10)) + (lnC L (f % 10) (f / 10) k)) + (L (((10 * (k - 1)) + (f % 10))))) = ((lnR L (t / 10) (f % 10) (t % 10)) + (lnC L (f % 10) (f / 10) (k - 1))) := by
                  rw [← lnC_d (by omega) (by omega) (by omega)]
                  grind
                refine j_L (congrArg (fun zz9 : Int32 => ([(8, .int zz9), (7, .int ((lnR L (f / 10) (f % 10) (t % 10)) + (lnC L (t % 10) (f / 10) (k - 1)))), (9, .int (nI (k - 1))), (0, .ref 0), (1, .int (nI f)), (2, .int (nI t)), (3, .int (nI (f / 10))), (4, .int (nI (f % 10))), (5, .int (nI (t / 10))), (6, .int (nI (t % 10)))] : List (Nat × Value))) hb8) ?_
                exact j_sub (jk_pick [3, 4, 5, 6, 7, 8, 9, 1, 0, 2] rfl) (ih6 (k - 1) (by omega) (by omega))
              · refine j_iconst 1 dX11_wayLoss_114 ic_1 ?_
                refine j_goto (tgt := 119) dX11_wayLoss_115 rfl ?_
                refine j_iaddN k 1 dX11_wayLoss_119 ?_
                refine j_istore (L' := [(9, .int (nI (k + 1))), (0, .ref 0), (1, .int (nI f)), (2, .int (nI t)), (3, .int (nI (f / 10))), (4, .int (nI (f % 10))), (5, .int (nI (t / 10))), (6, .int (nI (t % 10))), (7, .int ((lnR L (f / 10) (f % 10) (t % 10)) + (lnC L (t % 10) (f / 10) k))), (8, .int ((lnR L (t / 10) (f % 10) (t % 10)) + (lnC L (f % 10) (f / 10) k)))]) dX11_wayLoss_120 (by decide) rfl ?_
                refine j_iload 8 dX11_wayLoss_122 rfl ?_
                refine j_aload_n 1 dX11_wayLoss_124 rfl ?_
                refine j_getr (q := 24) dX11_wayLoss_125 fX11_96 (shM hM sgM_0) rfl (rfM hM rfM_0_37) ?_
                refine j_bipush 10 dX11_wayLoss_128 bp_10 ?_
                refine j_iload 0 dX11_wayLoss_130 rfl ?_
                refine j_imulN 10 (k + 1) dX11_wayLoss_132 ?_
                refine j_iload 7 dX11_wayLoss_133 rfl ?_
                refine j_iaddN (10 * (k + 1)) (t % 10) dX11_wayLoss_135 ?_
                refine j_ialdN ((10 * (k + 1)) + (t % 10)) dX11_wayLoss_136 (shM hM sgM_24) (by omega) (by omega) ?_
                refine j_topi (L (((10 * (k + 1)) + (t % 10)))) (hL _ (by omega)) ?_
                refine j_iadd dX11_wayLoss_137 ?_
                refine j_istore (L' := [(7, .int (((lnR L (f / 10) (f % 10) (t % 10)) + (lnC L (t % 10) (f / 10) k)) + (L (((10 * (k + 1)) + (t % 10)))))), (9, .int (nI (k + 1))), (0, .ref 0), (1, .int (nI f)), (2, .int (nI t)), (3, .int (nI (f / 10))), (4, .int (nI (f % 10))), (5, .int (nI (t / 10))), (6, .int (nI (t % 10))), (8, .int ((lnR L (t / 10) (f % 10) (t % 10)) + (lnC L (f % 10) (f / 10) k)))]) dX11_wayLoss_138 (by decide) rfl ?_
                refine j_iload 9 dX11_wayLoss_140 rfl ?_
                refine j_aload_n 2 dX11_wayLoss_142 rfl ?_
                refine j_getr (q := 24) dX11_wayLoss_143 fX11_96 (shM hM sgM_0) rfl (rfM hM rfM_0_37) ?_
                refine j_bipush 10 dX11_wayLoss_146 bp_10 ?_
                refine j_iload 1 dX11_wayLoss_148 rfl ?_
                refine j_imulN 10 (k + 1) dX11_wayLoss_150 ?_
                refine j_iload 6 dX11_wayLoss_151 rfl ?_
                refine j_iaddN (10 * (k + 1)) (f % 10) dX11_wayLoss_153 ?_
                refine j_ialdN ((10 * (k + 1)) + (f % 10)) dX11_wayLoss_154 (shM hM sgM_24) (by omega) (by omega) ?_
                refine j_topi (L (((10 * (k + 1)) + (f % 10)))) (hL _ (by omega)) ?_
                refine j_iadd dX11_wayLoss_155 ?_
                refine j_istore (L' := [(8, .int (((lnR L (t / 10) (f % 10) (t % 10)) + (lnC L (f % 10) (f / 10) k)) + (L (((10 * (k + 1)) + (f % 10)))))), (7, .int (((lnR L (f / 10) (f % 10) (t % 10)) + (lnC L (t % 10) (f / 10) k)) + (L (((10 * (k + 1)) + (t % 10)))))), (9, .int (nI (k + 1))), (0, .ref 0), (1, .int (nI f)), (2, .int (nI t)), (3, .int (nI (f / 10))), (4, .int (nI (f % 10))), (5, .int (nI (t / 10))), (6, .int (nI (t % 10)))]) dX11_wayLoss_156 (by decide) rfl ?_
                refine j_goto (tgt := 98) dX11_wayLoss_158 rfl ?_
                have hb7 : (((lnR L (f / 10) (f % 10) (t % 10)) + (lnC L (t % 10) (f / 10) k)) + (L (((10 * (k + 1)) + (t % 10))))) = ((lnR L (f / 10) (f % 10) (t % 10)) + (lnC L (t % 10) (f / 10) (k + 1))) := by
                  rw [← lnC_u (by omega) (by omega)]
                  grind
                refine j_L (congrArg (fun zz9 : Int32 => ([(8, .int (((lnR L (t / 10) (f % 10) (t % 10)) + (lnC L (f % 10) (f / 10) k)) + (L (((10 * (k + 1)) + (f % 10)))))), (7, .int zz9), (9, .int (nI (k + 1))), (0, .ref 0), (1, .int (nI f)), (2, .int (nI t)), (3, .int (nI (f / 10))), (4, .int (nI (f % 10))), (5, .int (nI (t / 10))), (6, .int (nI (t % 10)))] : List (Nat × Value))) hb7) ?_
                have hb8 : (((lnR L (t / 10) (f % 10) (t % 10)) + (lnC L (f % 10) (f / 10) k)) + (L (((10 * (k + 1)) + (f % 10))))) = ((lnR L (t / 10) (f % 10) (t % 10)) + (lnC L (f % 10) (f / 10) (k + 1))) := by
                  rw [← lnC_u (by omega) (by omega)]
                  grind
                refine j_L (congrArg (fun zz9 : Int32 => ([(8, .int zz9), (7, .int ((lnR L (f / 10) (f % 10) (t % 10)) + (lnC L (t % 10) (f / 10) (k + 1)))), (9, .int (nI (k + 1))), (0, .ref 0), (1, .int (nI f)), (2, .int (nI t)), (3, .int (nI (f / 10))), (4, .int (nI (f % 10))), (5, .int (nI (t / 10))), (6, .int (nI (t % 10)))] : List (Nat × Value))) hb8) ?_
                exact j_sub (jk_pick [3, 4, 5, 6, 7, 8, 9, 1, 0, 2] rfl) (ih6 (k + 1) (by omega) (by omega))
        exact j_sub (jk_pick [1, 2, 3, 4, 5, 6, 7, 8, 9, 0] rfl) (lp7 _ (f / 10) (Nat.lt_succ_self _) (by omega))
      · refine j_iload 9 dX11_wayLoss_40 rfl ?_
        refine j_iload 6 dX11_wayLoss_42 rfl ?_
        refine j_iload 9 dX11_wayLoss_44 rfl ?_
        refine j_icmp_leN (tgt := 53) (t % 10) k dX11_wayLoss_46 rfl (by omega) (by omega) (fun c11 => ?_) (fun c11 => ?_)
        · refine j_iconst (-1) dX11_wayLoss_53 ic_n1 ?_
          refine j_iadd dX11_wayLoss_54 ?_
          refine j_topi (nI (k - 1)) (nI_m1 (by omega)) ?_
          refine j_istore (L' := [(9, .int (nI (k - 1))), (0, .ref 0), (1, .int (nI f)), (2, .int (nI t)), (3, .int (nI (f / 10))), (4, .int (nI (f % 10))), (5, .int (nI (t / 10))), (6, .int (nI (t % 10))), (7, .int (lnR L (f / 10) (f % 10) k)), (8, .int (lnR L (t / 10) (f % 10) k))]) dX11_wayLoss_55 (by decide) rfl ?_
          refine j_iload 8 dX11_wayLoss_57 rfl ?_
          refine j_aload_n 1 dX11_wayLoss_59 rfl ?_
          refine j_getr (q := 24) dX11_wayLoss_60 fX11_96 (shM hM sgM_0) rfl (rfM hM rfM_0_37) ?_
          refine j_bipush 10 dX11_wayLoss_63 bp_10 ?_
          refine j_iload_n 4 dX11_wayLoss_65 rfl ?_
          refine j_imulN 10 (f / 10) dX11_wayLoss_66 ?_
          refine j_iload 0 dX11_wayLoss_67 rfl ?_
          refine j_iaddN (10 * (f / 10)) (k - 1) dX11_wayLoss_69 ?_
          refine j_ialdN ((10 * (f / 10)) + (k - 1)) dX11_wayLoss_70 (shM hM sgM_24) (by omega) (by omega) ?_
          refine j_topi (L (((10 * (f / 10)) + (k - 1)))) (hL _ (by omega)) ?_
          refine j_iadd dX11_wayLoss_71 ?_
          refine j_istore (L' := [(7, .int ((lnR L (f / 10) (f % 10) k) + (L (((10 * (f / 10)) + (k - 1)))))), (9, .int (nI (k - 1))), (0, .ref 0), (1, .int (nI f)), (2, .int (nI t)), (3, .int (nI (f / 10))), (4, .int (nI (f % 10))), (5, .int (nI (t / 10))), (6, .int (nI (t % 10))), (8, .int (lnR L (t / 10) (f % 10) k))]) dX11_wayLoss_72 (by decide) rfl ?_
          refine j_iload 9 dX11_wayLoss_74 rfl ?_
          refine j_aload_n 2 dX11_wayLoss_76 rfl ?_
          refine j_getr (q := 24) dX11_wayLoss_77 fX11_96 (shM hM sgM_0) rfl (rfM hM rfM_0_37) ?_
          refine j_bipush 10 dX11_wayLoss_80 bp_10 ?_
          refine j_iload 7 dX11_wayLoss_82 rfl ?_
          refine j_imulN 10 (t / 10) dX11_wayLoss_84 ?_
          refine j_iload 1 dX11_wayLoss_85 rfl ?_
          refine j_iaddN (10 * (t / 10)) (k - 1) dX11_wayLoss_87 ?_
          refine j_ialdN ((10 * (t / 10)) + (k - 1)) dX11_wayLoss_88 (shM hM sgM_24) (by omega) (by omega) ?_
          refine j_topi (L (((10 * (t / 10)) + (k - 1)))) (hL _ (by omega)) ?_
          refine j_iadd dX11_wayLoss_89 ?_
          refine j_istore (L' := [(8, .int ((lnR L (t / 10) (f % 10) k) + (L (((10 * (t / 10)) + (k - 1)))))), (7, .int ((lnR L (f / 10) (f % 10) k) + (L (((10 * (f / 10)) + (k - 1)))))), (9, .int (nI (k - 1))), (0, .ref 0), (1, .int (nI f)), (2, .int (nI t)), (3, .int (nI (f / 10))), (4, .int (nI (f % 10))), (5, .int (nI (t / 10))), (6, .int (nI (t % 10)))]) dX11_wayLoss_90 (by decide) rfl ?_
          refine j_goto (tgt := 33) dX11_wayLoss_92 rfl ?_
          have hb7 : ((lnR L (f / 10) (f % 10) k) + (L (((10 * (f / 10)) + (k - 1))))) = (lnR L (f / 10) (f % 10) (k - 1)) := by
            rw [← lnR_d (by omega) (by omega) (by omega)]
          refine j_L (congrArg (fun zz9 : Int32 => ([(8, .int ((lnR L (t / 10) (f % 10) k) + (L (((10 * (t / 10)) + (k - 1)))))), (7, .int zz9), (9, .int (nI (k - 1))), (0, .ref 0), (1, .int (nI f)), (2, .int (nI t)), (3, .int (nI (f / 10))), (4, .int (nI (f % 10))), (5, .int (nI (t / 10))), (6, .int (nI (t % 10)))] : List (Nat × Value))) hb7) ?_
          have hb8 : ((lnR L (t / 10) (f % 10) k) + (L (((10 * (t / 10)) + (k - 1))))) = (lnR L (t / 10) (f % 10) (k - 1)) := by
            rw [← lnR_d (by omega) (by omega) (by omega)]
          refine j_L (congrArg (fun zz9 : Int32 => ([(8, .int zz9), (7, .int (lnR L (f / 10) (f % 10) (k - 1))), (9, .int (nI (k - 1))), (0, .ref 0), (1, .int (nI f)), (2, .int (nI t)), (3, .int (nI (f / 10))), (4, .int (nI (f % 10))), (5, .int (nI (t / 10))), (6, .int (nI (t % 10)))] : List (Nat × Value))) hb8) ?_
          exact j_sub (jk_pick [3, 4, 5, 6, 7, 8, 9, 1, 0, 2] rfl) (ih2 (k - 1) (by omega) (by omega))
        · refine j_iconst 1 dX11_wayLoss_49 ic_1 ?_
          refine j_goto (tgt := 54) dX11_wayLoss_50 rfl ?_
          refine j_iaddN k 1 dX11_wayLoss_54 ?_
          refine j_istore (L' := [(9, .int (nI (k + 1))), (0, .ref 0), (1, .int (nI f)), (2, .int (nI t)), (3, .int (nI (f / 10))), (4, .int (nI (f % 10))), (5, .int (nI (t / 10))), (6, .int (nI (t % 10))), (7, .int (lnR L (f / 10) (f % 10) k)), (8, .int (lnR L (t / 10) (f % 10) k))]) dX11_wayLoss_55 (by decide) rfl ?_
          refine j_iload 8 dX11_wayLoss_57 rfl ?_
          refine j_aload_n 1 dX11_wayLoss_59 rfl ?_
          refine j_getr (q := 24) dX11_wayLoss_60 fX11_96 (shM hM sgM_0) rfl (rfM hM rfM_0_37) ?_
          refine j_bipush 10 dX11_wayLoss_63 bp_10 ?_
          refine j_iload_n 4 dX11_wayLoss_65 rfl ?_
          refine j_imulN 10 (f / 10) dX11_wayLoss_66 ?_
          refine j_iload 0 dX11_wayLoss_67 rfl ?_
          refine j_iaddN (10 * (f / 10)) (k + 1) dX11_wayLoss_69 ?_
          refine j_ialdN ((10 * (f / 10)) + (k + 1)) dX11_wayLoss_70 (shM hM sgM_24) (by omega) (by omega) ?_
          refine j_topi (L (((10 * (f / 10)) + (k + 1)))) (hL _ (by omega)) ?_
          refine j_iadd dX11_wayLoss_71 ?_
          refine j_istore (L' := [(7, .int ((lnR L (f / 10) (f % 10) k) + (L (((10 * (f / 10)) + (k + 1)))))), (9, .int (nI (k + 1))), (0, .ref 0), (1, .int (nI f)), (2, .int (nI t)), (3, .int (nI (f / 10))), (4, .int (nI (f % 10))), (5, .int (nI (t / 10))), (6, .int (nI (t % 10))), (8, .int (lnR L (t / 10) (f % 10) k))]) dX11_wayLoss_72 (by decide) rfl ?_
          refine j_iload 9 dX11_wayLoss_74 rfl ?_
          refine j_aload_n 2 dX11_wayLoss_76 rfl ?_
          refine j_getr (q := 24) dX11_wayLoss_77 fX11_96 (shM hM sgM_0) rfl (rfM hM rfM_0_37) ?_
          refine j_bipush 10 dX11_wayLoss_80 bp_10 ?_
          refine j_iload 7 dX11_wayLoss_82 rfl ?_
          refine j_imulN 10 (t / 10) dX11_wayLoss_84 ?_
          refine j_iload 1 dX11_wayLoss_85 rfl ?_
          refine j_iaddN (10 * (t / 10)) (k + 1) dX11_wayLoss_87 ?_
          refine j_ialdN ((10 * (t / 10)) + (k + 1)) dX11_wayLoss_88 (shM hM sgM_24) (by omega) (by omega) ?_
          refine j_topi (L (((10 * (t / 10)) + (k + 1)))) (hL _ (by omega)) ?_
          refine j_iadd dX11_wayLoss_89 ?_
          refine j_istore (L' := [(8, .int ((lnR L (t / 10) (f % 10) k) + (L (((10 * (t / 10)) + (k + 1)))))), (7, .int ((lnR L (f / 10) (f % 10) k) + (L (((10 * (f / 10)) + (k + 1)))))), (9, .int (nI (k + 1))), (0, .ref 0), (1, .int (nI f)), (2, .int (nI t)), (3, .int (nI (f / 10))), (4, .int (nI (f % 10))), (5, .int (nI (t / 10))), (6, .int (nI (t % 10)))]) dX11_wayLoss_90 (by decide) rfl ?_
          refine j_goto (tgt := 33) dX11_wayLoss_92 rfl ?_
          have hb7 : ((lnR L (f / 10) (f % 10) k) + (L (((10 * (f / 10)) + (k + 1))))) = (lnR L (f / 10) (f % 10) (k + 1)) := by
            rw [← lnR_u (by omega) (by omega)]
          refine j_L (congrArg (fun zz9 : Int32 => ([(8, .int ((lnR L (t / 10) (f % 10) k) + (L (((10 * (t / 10)) + (k + 1)))))), (7, .int zz9), (9, .int (nI (k + 1))), (0, .ref 0), (1, .int (nI f)), (2, .int (nI t)), (3, .int (nI (f / 10))), (4, .int (nI (f % 10))), (5, .int (nI (t / 10))), (6, .int (nI (t % 10)))] : List (Nat × Value))) hb7) ?_
          have hb8 : ((lnR L (t / 10) (f % 10) k) + (L (((10 * (t / 10)) + (k + 1))))) = (lnR L (t / 10) (f % 10) (k + 1)) := by
            rw [← lnR_u (by omega) (by omega)]
          refine j_L (congrArg (fun zz9 : Int32 => ([(8, .int zz9), (7, .int (lnR L (f / 10) (f % 10) (k + 1))), (9, .int (nI (k + 1))), (0, .ref 0), (1, .int (nI f)), (2, .int (nI t)), (3, .int (nI (f / 10))), (4, .int (nI (f % 10))), (5, .int (nI (t / 10))), (6, .int (nI (t % 10)))] : List (Nat × Value))) hb8) ?_
          exact j_sub (jk_pick [3, 4, 5, 6, 7, 8, 9, 1, 0, 2] rfl) (ih2 (k + 1) (by omega) (by omega))
  exact j_sub (jk_pick [7, 8, 9, 6, 5, 4, 3, 2, 1, 0] rfl) (lp3 _ (f % 10) (Nat.lt_succ_self _) (by omega))
theorem T_X11_wayLoss {d : Nat} {M : jk_M} {T : HS} (hM : WM M) (ok : Sok T) (hk : LkO T M) (f t : Int32) (hf : isC T f) (ht : isC T t) : J Fr_X11_wayLoss d 0 0 0 [(0, .ref 0), (1, .int f), (2, .int t)] [] M (jk_is (some (.int (wayS T f t))) M) := by
  obtain ⟨e1, h1, h2, h3⟩ := isC_nat ok hf
  obtain ⟨e2, h4, h5, h6⟩ := isC_nat ok ht
  have h8 := ok.S.2.2
  rw [e1, e2, way_e h3 h6]
  exact T_wayN hM hk.1 _ _ h3 (by omega) h6 (by omega)
