/-! constructors: a memory that is new, by lists of what was written -/
def lkR : List (Nat × Nat × Nat) → Nat → Nat → Option Nat
  | [], _, _ => none
  | e :: W, a, k => if a = e.1 ∧ k = e.2.1 then some e.2.2 else lkR W a k
def lkI : List (Nat × Nat × Int32) → Nat → Nat → Int32
  | [], _, _ => 0
  | e :: V, a, k => if a = e.1 ∧ k = e.2.1 then e.2.2 else lkI V a k
def SL (gr : List (Nat × Nat)) (n : Nat) (W : List (Nat × Nat × Nat)) (V : List (Nat × Nat × Int32)) (M : jk_M) : Prop := M.1 = gr.take n ∧ M.2.2.2 = lkR W ∧ M.2.1 = lkI V ∧ M.2.2.1 = (fun _ _ => 0) ∧ (∀ e ∈ W, e.1 < n) ∧ (∀ e ∈ V, e.1 < n) ∧ n ≤ gr.length
theorem lkR_n {n k : Nat} : ∀ {W : List (Nat × Nat × Nat)}, (∀ e ∈ W, e.1 < n) → lkR W n k = none
  | [], _ => rfl
  | e :: W, h => by
    have h1 := h e List.mem_cons_self
    rw [lkR, if_neg (fun z => by have := z.1; omega)]
    exact lkR_n (fun x hx => h x (List.mem_cons_of_mem _ hx))
theorem lkI_n {n k : Nat} : ∀ {V : List (Nat × Nat × Int32)}, (∀ e ∈ V, e.1 < n) → lkI V n k = 0
  | [], _ => rfl
  | e :: V, h => by
    have h1 := h e List.mem_cons_self
    rw [lkI, if_neg (fun z => by have := z.1; omega)]
    exact lkI_n (fun x hx => h x (List.mem_cons_of_mem _ hx))
section SLS
variable {gr : List (Nat × Nat)} {n : Nat} {W : List (Nat × Nat × Nat)} {V : List (Nat × Nat × Int32)} {M : jk_M}
theorem SL.len (h : SL gr n W V M) : M.1.length = n := by
  rw [h.1, List.length_take]; exact Nat.min_eq_left h.2.2.2.2.2.2
theorem SL.sh (h : SL gr n W V M) {a : Nat} {sh : Nat × Nat} (ha : a < n) (hg : gr[a]? = some sh) : M.1[a]? = some sh := by
  rw [h.1, List.getElem?_take, if_pos ha]; exact hg
theorem SL.rd (h : SL gr n W V M) {a k q : Nat} (e : lkR W a k = some q) : M.2.2.2 a k = some q := by rw [h.2.1]; exact e
theorem SL.wI (h : SL gr n W V M) {a k : Nat} {x : Int32} (ha : a < n) : SL gr n W ((a, k, x) :: V) (jk_wI M a k x) := by
  obtain ⟨h1, h2, h3, h4, h5, h6, h7⟩ := h
  refine ⟨h1, h2, ?_, h4, h5, fun e he => (List.mem_cons.mp he).elim (fun z => by rw [z]; exact ha) (h6 e), h7⟩
  funext b j
  show va_up M.2.1 a (va_up (M.2.1 a) k x) b j = lkI ((a, k, x) :: V) b j
  rw [lkI, ← h3]
  by_cases e : b = a
  · subst e
    rw [va_up_self]
    by_cases e2 : j = k
    · subst e2; rw [if_pos ⟨rfl, rfl⟩]; simp [va_up]
    · rw [if_neg (fun z => e2 z.2)]; simp [va_up, e2]
  · rw [va_up_ne _ _ e, if_neg (fun z => e z.1)]
theorem SL.wR (h : SL gr n W V M) {a k q : Nat} (ha : a < n) : SL gr n ((a, k, q) :: W) V (jk_wR M a k (some q)) := by
  obtain ⟨h1, h2, h3, h4, h5, h6, h7⟩ := h
  refine ⟨h1, ?_, h3, h4, fun e he => (List.mem_cons.mp he).elim (fun z => by rw [z]; exact ha) (h5 e), h6, h7⟩
  funext b j
  show va_up M.2.2.2 a (va_up (M.2.2.2 a) k (some q)) b j = lkR ((a, k, q) :: W) b j
  rw [lkR, ← h2]
  by_cases e : b = a
  · subst e
    rw [va_up_self]
    by_cases e2 : j = k
    · subst e2; rw [if_pos ⟨rfl, rfl⟩]; simp [va_up]
    · rw [if_neg (fun z => e2 z.2)]; simp [va_up, e2]
  · rw [va_up_ne _ _ e, if_neg (fun z => e z.1)]
theorem SL.nw (h : SL gr n W V M) {sh : Nat × Nat} (hg : gr[n]? = some sh) : SL gr (n + 1) W V (jk_nw M sh) := by
  have hl := h.len
  obtain ⟨h1, h2, h3, h4, h5, h6, h7⟩ := h
  have hn : n < gr.length := by
    by_cases c : n < gr.length
    · exact c
    · rw [List.getElem?_eq_none (by omega)] at hg; cases hg
  refine ⟨?_, ?_, ?_, ?_, fun e he => Nat.lt_succ_of_lt (h5 e he), fun e he => Nat.lt_succ_of_lt (h6 e he), hn⟩
  · show M.1 ++ [sh] = _
    rw [h1, List.take_succ, hg]; rfl
  · show va_up M.2.2.2 M.1.length (fun _ => none) = _
    rw [hl, h2]; funext b j
    by_cases e : b = n
    · subst e; rw [va_up_self]; exact (lkR_n h5).symm
    · rw [va_up_ne _ _ e]
  · show va_up M.2.1 M.1.length (fun _ => 0) = _
    rw [hl, h3]; funext b j
    by_cases e : b = n
    · subst e; rw [va_up_self]; exact (lkI_n h6).symm
    · rw [va_up_ne _ _ e]
  · show va_up M.2.2.1 M.1.length (fun _ => 0) = _
    rw [h4]; funext b j
    by_cases e : b = M.1.length
    · rw [e, va_up_self]
    · rw [va_up_ne _ _ e]
variable {F : jk_F} {d kc ks pc : Nat} {L : List (Nat × Value)} {st : List Value} {Q : Option Value → jk_M → Prop} {idx ci a k : Nat}
theorem c_put {x : Int32} (hdg : decode F.2.1 pc = .ok (.putfield idx, 3)) (hf : jk_fl F.1 idx ci k false) (h : SL gr n W V M) (ha : a < n) (hg : gr[a]? = some (0, ci)) (ht : jk_ft ci k = .int) (kk : ∀ M', SL gr n W ((a, k, x) :: V) M' → J F d kc ks (pc + 3) L st M' Q) : J F d kc ks pc L (.int x :: .ref a :: st) M Q := j_put hdg hf (h.sh ha hg) ht (kk _ (h.wI ha))
theorem c_putz {x : Int32} (hdg : decode F.2.1 pc = .ok (.putfield idx, 3)) (hf : jk_fl F.1 idx ci k false) (h : SL gr n W V M) (ha : a < n) (hg : gr[a]? = some (0, ci)) (ht : jk_ft ci k = .boolean) (hx : x = 0 ∨ x = 1) (kk : ∀ M', SL gr n W ((a, k, x) :: V) M' → J F d kc ks (pc + 3) L st M' Q) : J F d kc ks pc L (.int x :: .ref a :: st) M Q := j_putz hdg hf (h.sh ha hg) ht hx (kk _ (h.wI ha))
theorem c_putr {q : Nat} (hdg : decode F.2.1 pc = .ok (.putfield idx, 3)) (hf : jk_fl F.1 idx ci k false) (h : SL gr n W V M) (ha : a < n) (hg : gr[a]? = some (0, ci)) (hR : jk_isR (jk_ft ci k) = true) (kk : ∀ M', SL gr n ((a, k, q) :: W) V M' → J F d kc ks (pc + 3) L st M' Q) : J F d kc ks pc L (.ref q :: .ref a :: st) M Q := j_putr hdg hf (h.sh ha hg) hR (kk _ (h.wR ha))
theorem c_putrF {q : Nat} (hdg : decode F.2.1 pc = .ok (.putfield idx, 3)) (hf : jk_fl F.1 idx ci k true) (hini : F.2.2.2.2 = true) (hci : (vwCl[ci]?).map (fun r => r.1) = some F.1) (h : SL gr n W V M) (ha : a < n) (hg : gr[a]? = some (0, ci)) (hR : jk_isR (jk_ft ci k) = true) (kk : ∀ M', SL gr n ((a, k, q) :: W) V M' → J F d kc ks (pc + 3) L st M' Q) : J F d kc ks pc L (.ref q :: .ref a :: st) M Q := j_putrF hdg hf hini hci (h.sh ha hg) hR (kk _ (h.wR ha))
theorem c_iast {x : Int32} {N : Nat} (i : Nat) (hdg : decode F.2.1 pc = .ok (.iastore, 1)) (h : SL gr n W V M) (ha : a < n) (hg : gr[a]? = some (1, N)) (hi : i < N) (hN : N < 2 ^ 31) (kk : ∀ M', SL gr n W ((a, i, x) :: V) M' → J F d kc ks (pc + 1) L st M' Q) : J F d kc ks pc L (.int x :: .int (nI i) :: .ref a :: st) M Q := j_iastN i hdg (h.sh ha hg) hi hN (kk _ (h.wI ha))
theorem c_aast {t N q cj : Nat} {r : vw_C} (i : Nat) (hdg : decode F.2.1 pc = .ok (.aastore, 1)) (h : SL gr n W V M) (ha : a < n) (hg : gr[a]? = some (t + 3, N)) (hty : ∀ dA : Nat → ClassId, (jk_tys dA)[t + 2]? = some (dA (t + 2), .object r.1)) (hqn : q < n) (hgq : gr[q]? = some (0, cj)) (hcj : vwCl[cj]? = some r) (hi : i < N) (hN : N < 2 ^ 31) (kk : ∀ M', SL gr n ((a, i, q) :: W) V M' → J F d kc ks (pc + 1) L st M' Q) : J F d kc ks pc L (.ref q :: .int (nI i) :: .ref a :: st) M Q := j_aast hdg (h.sh ha hg) hty (h.sh hqn hgq) hcj (vp_in_nI hi hN) (by rw [nI_clamp (by omega)]; exact kk _ (h.wR ha))
theorem c_new (hdg : decode F.2.1 pc = .ok (.new idx, 3)) (hini : F.2.2.2.2 = true) (hn : jk_nwC F.1 idx ci) (h : SL gr n W V M) (hg : gr[n]? = some (0, ci)) (hl : n < 1000) (kk : ∀ M', SL gr (n + 1) W V M' → J F d kc ks (pc + 3) L (.ref n :: st) M' Q) : J F d (kc + 1) (ks + jk_nf ci) pc L st M Q := by
  have e := h.len
  exact j_new hdg hini hn (by omega) (by rw [e]; exact kk _ (h.nw hg))
theorem c_newI {at1 : ArrayType} {x : Int32} {N : Nat} (hdg : decode F.2.1 pc = .ok (.newarray at1, 2)) (hat : newarray.typeOf at1 = .int) (hini : F.2.2.2.2 = true) (hw : Cond.arrayClass .int ∈ jk_gt) (hn : ¬ x < 0) (hN : x.toNatClampNeg = N) (hN2 : N ≤ 100000) (h : SL gr n W V M) (hg : gr[n]? = some (1, N)) (hl : n < 1000) (kk : ∀ M', SL gr (n + 1) W V M' → J F d kc ks (pc + 2) L (.ref n :: st) M' Q) : J F d (kc + 1) (ks + N) pc L (.int x :: st) M Q := by
  have e := h.len
  exact j_newaI hdg hat hini hw hn hN hN2 (by omega) (by rw [e]; exact kk _ (h.nw hg))
theorem c_newL {at1 : ArrayType} {x : Int32} {N : Nat} (hdg : decode F.2.1 pc = .ok (.newarray at1, 2)) (hat : newarray.typeOf at1 = .long) (hini : F.2.2.2.2 = true) (hw : Cond.arrayClass .long ∈ jk_gt) (hn : ¬ x < 0) (hN : x.toNatClampNeg = N) (hN2 : N ≤ 100000) (h : SL gr n W V M) (hg : gr[n]? = some (2, N)) (hl : n < 1000) (kk : ∀ M', SL gr (n + 1) W V M' → J F d kc ks (pc + 2) L (.ref n :: st) M' Q) : J F d (kc + 1) (ks + N) pc L (.int x :: st) M Q := by
  have e := h.len
  exact j_newaL hdg hat hini hw hn hN hN2 (by omega) (by rw [e]; exact kk _ (h.nw hg))
theorem c_anew {t : Nat} {C : String} {x : Int32} {N : Nat} (hdg : decode F.2.1 pc = .ok (.anewarray idx, 3)) (hini : F.2.2.2.2 = true) (hlk : Cond.classLink F.1 idx C ∈ jk_gt) (hov : Cond.arrayOver (.object C) ∈ jk_ns) (hty : ∀ dA : Nat → ClassId, (jk_tys dA)[t + 2]? = some (dA (t + 2), .object C)) (hn : ¬ x < 0) (hN : x.toNatClampNeg = N) (hN2 : N ≤ 100000) (h : SL gr n W V M) (hg : gr[n]? = some (t + 3, N)) (hl : n < 1000) (kk : ∀ M', SL gr (n + 1) W V M' → J F d kc ks (pc + 3) L (.ref n :: st) M' Q) : J F d (kc + 1) (ks + N) pc L (.int x :: st) M Q := by
  have e := h.len
  exact j_anew hdg hini hlk hov hty hn hN hN2 (by omega) (by rw [e]; exact kk _ (h.nw hg))
end SLS
set_option maxRecDepth 20000 in
set_option maxHeartbeats 4000000 in
theorem T_i_X9 {d : Nat} {W : List (Nat × Nat × Nat)} {V : List (Nat × Nat × Int32)} {M : jk_M} {gr : List (Nat × Nat)} {n o : Nat} (h : SL gr n W V M) (hon : o < n) (sgo : gr[o]? = some (0, 9)) : J Fr_X9_init d 0 0 0 [(0, .ref o)] [] M (jk_ex none (fun M1 => SL gr n (W) ((o, 3, 1) :: (o, 2, 0) :: (o, 1, 0) :: (o, 0, 0) :: V) M1)) := by
  refine j_post (fun Q hQ => ?_)
  refine j_aload_n 0 dX9_init_0 rfl ?_
  refine j_objInit dX9_init_1 mX9_3 ob_init.1 ob_init.2 (Nat.le_of_ble_eq_true rfl) ?_
  refine j_aload_n 0 dX9_init_4 rfl ?_
  refine j_iconst 0 dX9_init_5 ic_0 ?_
  refine c_put dX9_init_6 fX9_9 h (by omega) sgo rfl ?_
  clear h M
  intro M h
  refine j_aload_n 0 dX9_init_9 rfl ?_
  refine j_iconst 0 dX9_init_10 ic_0 ?_
  refine c_put dX9_init_11 fX9_15 h (by omega) sgo rfl ?_
  clear h M
  intro M h
  refine j_aload_n 0 dX9_init_14 rfl ?_
  refine j_iconst 0 dX9_init_15 ic_0 ?_
  refine c_put dX9_init_16 fX9_18 h (by omega) sgo rfl ?_
  clear h M
  intro M h
  refine j_aload_n 0 dX9_init_19 rfl ?_
  refine j_iconst 1 dX9_init_20 ic_1 ?_
  refine c_putz dX9_init_21 fX9_21 h (by omega) sgo rfl (by decide) ?_
  clear h M
  intro M h
  refine j_vret dX9_init_24 rfl ?_
  exact hQ _ _ ⟨rfl, h⟩
set_option maxRecDepth 20000 in
set_option maxHeartbeats 4000000 in
theorem T_i_X1 {d : Nat} {W : List (Nat × Nat × Nat)} {V : List (Nat × Nat × Int32)} {M : jk_M} {gr : List (Nat × Nat)} {n o : Nat} (h : SL gr n W V M) (hon : o < n) (sgo : gr[o]? = some (0, 1)) : J Fr_X1_init d 0 0 0 [(0, .ref o)] [] M (jk_ex none (fun M1 => SL gr n (W) ((o, 3, 0) :: (o, 2, 1) :: (o, 1, 1) :: (o, 0, 0) :: V) M1)) := by
  refine j_post (fun Q hQ => ?_)
  refine j_aload_n 0 dX1_init_0 rfl ?_
  refine j_objInit dX1_init_1 mX1_1 ob_init.1 ob_init.2 (Nat.le_of_ble_eq_true rfl) ?_
  refine j_aload_n 0 dX1_init_4 rfl ?_
  refine j_iconst 0 dX1_init_5 ic_0 ?_
  refine c_put dX1_init_6 fX1_7 h (by omega) sgo rfl ?_
  clear h M
  intro M h
  refine j_aload_n 0 dX1_init_9 rfl ?_
  refine j_iconst 1 dX1_init_10 ic_1 ?_
  refine c_put dX1_init_11 fX1_13 h (by omega) sgo rfl ?_
  clear h M
  intro M h
  refine j_aload_n 0 dX1_init_14 rfl ?_
  refine j_iconst 1 dX1_init_15 ic_1 ?_
  refine c_put dX1_init_16 fX1_16 h (by omega) sgo rfl ?_
  clear h M
  intro M h
  refine j_aload_n 0 dX1_init_19 rfl ?_
  refine j_iconst 0 dX1_init_20 ic_0 ?_
  refine c_put dX1_init_21 fX1_19 h (by omega) sgo rfl ?_
  clear h M
  intro M h
  refine j_vret dX1_init_24 rfl ?_
  exact hQ _ _ ⟨rfl, h⟩
set_option maxRecDepth 20000 in
set_option maxHeartbeats 4000000 in
theorem T_i_X8 {d : Nat} {W : List (Nat × Nat × Nat)} {V : List (Nat × Nat × Int32)} {M : jk_M} {gr : List (Nat × Nat)} {n o : Nat} (h : SL gr n W V M) (hon : o < n) (sgo : gr[o]? = some (0, 8)) (sgn : gr[n]? = some (2, 160)) (hn9 : n < 1000) : J Fr_X8_init d 1 160 0 [(0, .ref o)] [] M (jk_ex none (fun M1 => SL gr (n + 1) ((o, 3, n) :: W) ((o, 2, (-1)) :: (o, 1, 0) :: (o, 0, (-1)) :: V) M1)) := by
  refine j_post (fun Q hQ => ?_)
  refine j_aload_n 0 dX8_init_0 rfl ?_
  refine j_objInit dX8_init_1 mX8_3 ob_init.1 ob_init.2 (Nat.le_of_ble_eq_true rfl) ?_
  refine j_aload_n 0 dX8_init_4 rfl ?_
  refine j_iconst (-1) dX8_init_5 ic_n1 ?_
  refine c_put dX8_init_6 fX8_11 h (by omega) sgo rfl ?_
  clear h M
  intro M h
  refine j_aload_n 0 dX8_init_9 rfl ?_
  refine j_iconst 0 dX8_init_10 ic_0 ?_
  refine c_put dX8_init_11 fX8_15 h (by omega) sgo rfl ?_
  clear h M
  intro M h
  refine j_aload_n 0 dX8_init_14 rfl ?_
  refine j_iconst (-1) dX8_init_15 ic_n1 ?_
  refine c_put dX8_init_16 fX8_18 h (by omega) sgo rfl ?_
  clear h M
  intro M h
  refine j_aload_n 0 dX8_init_19 rfl ?_
  refine j_sipush 160 dX8_init_20 sp_160 ?_
  refine c_newL (kc := 0) (ks := 0) (N := 160) dX8_init_23 rfl rfl ac_long (by decide) (by decide) (by decide) h sgn hn9 ?_
  clear h M
  intro M h
  refine c_putrF dX8_init_25 fX8_21 rfl rfl h (by omega) sgo rfl ?_
  clear h M
  intro M h
  refine j_vret dX8_init_28 rfl ?_
  exact hQ _ _ ⟨rfl, h⟩
set_option maxRecDepth 20000 in
set_option maxHeartbeats 4000000 in
theorem T_i_X2_1 {d : Nat} {W : List (Nat × Nat × Nat)} {V : List (Nat × Nat × Int32)} {M : jk_M} (h : SL jGC 2 W V M) : J Fr_X2_init (d + 1) 26 126 0 [(0, .ref 1)] [] M (jk_ex none (fun M1 => SL jGC 28 ((3, 5, 27) :: (3, 4, 26) :: (3, 3, 25) :: (3, 2, 24) :: (3, 1, 23) :: (3, 0, 22) :: (2, 15, 21) :: (2, 14, 20) :: (2, 13, 19) :: (2, 12, 18) :: (2, 11, 17) :: (2, 10, 16) :: (2, 9, 15) :: (2, 8, 14) :: (2, 7, 13) :: (2, 6, 12) :: (2, 5, 11) :: (2, 4, 10) :: (2, 3, 9) :: (2, 2, 8) :: (2, 1, 7) :: (2, 0, 6) :: (1, 13, 5) :: (1, 12, 4) :: (1, 11, 3) :: (1, 10, 2) :: W) ((27, 3, 0) :: (27, 2, 1) :: (27, 1, 1) :: (27, 0, 0) :: (26, 3, 0) :: (26, 2, 1) :: (26, 1, 1) :: (26, 0, 0) :: (25, 3, 0) :: (25, 2, 1) :: (25, 1, 1) :: (25, 0, 0) :: (24, 3, 0) :: (24, 2, 1) :: (24, 1, 1) :: (24, 0, 0) :: (23, 3, 0) :: (23, 2, 1) :: (23, 1, 1) :: (23, 0, 0) :: (22, 3, 0) :: (22, 2, 1) :: (22, 1, 1) :: (22, 0, 0) :: (21, 3, 1) :: (21, 2, 0) :: (21, 1, 0) :: (21, 0, 0) :: (20, 3, 1) :: (20, 2, 0) :: (20, 1, 0) :: (20, 0, 0) :: (19, 3, 1) :: (19, 2, 0) :: (19, 1, 0) :: (19, 0, 0) :: (18, 3, 1) :: (18, 2, 0) :: (18, 1, 0) :: (18, 0, 0) :: (17, 3, 1) :: (17, 2, 0) :: (17, 1, 0) :: (17, 0, 0) :: (16, 3, 1) :: (16, 2, 0) :: (16, 1, 0) :: (16, 0, 0) :: (15, 3, 1) :: (15, 2, 0) :: (15, 1, 0) :: (15, 0, 0) :: (14, 3, 1) :: (14, 2, 0) :: (14, 1, 0) :: (14, 0, 0) :: (13, 3, 1) :: (13, 2, 0) :: (13, 1, 0) :: (13, 0, 0) :: (12, 3, 1) :: (12, 2, 0) :: (12, 1, 0) :: (12, 0, 0) :: (11, 3, 1) :: (11, 2, 0) :: (11, 1, 0) :: (11, 0, 0) :: (10, 3, 1) :: (10, 2, 0) :: (10, 1, 0) :: (10, 0, 0) :: (9, 3, 1) :: (9, 2, 0) :: (9, 1, 0) :: (9, 0, 0) :: (8, 3, 1) :: (8, 2, 0) :: (8, 1, 0) :: (8, 0, 0) :: (7, 3, 1) :: (7, 2, 0) :: (7, 1, 0) :: (7, 0, 0) :: (6, 3, 1) :: (6, 2, 0) :: (6, 1, 0) :: (6, 0, 0) :: (1, 9, 0) :: (1, 8, 0) :: (1, 7, 0) :: (1, 6, (-1)) :: (1, 5, 0) :: (1, 4, 1) :: (1, 3, 0) :: (1, 2, 6) :: (1, 1, 50) :: (1, 0, 4) :: V) M1)) := by
  refine j_post (fun Q hQ => ?_)
  refine j_aload_n 0 dX2_init_0 rfl ?_
  refine j_objInit dX2_init_1 mX2_3 ob_init.1 ob_init.2 (Nat.le_of_ble_eq_true rfl) ?_
  refine j_aload_n 0 dX2_init_4 rfl ?_
  refine j_iconst 4 dX2_init_5 ic_4 ?_
  refine c_put dX2_init_6 fX2_9 h (by decide) sgC_1 rfl ?_
  clear h M
  intro M h
  refine j_aload_n 0 dX2_init_9 rfl ?_
  refine j_bipush 50 dX2_init_10 bp_50 ?_
  refine c_put dX2_init_12 fX2_15 h (by decide) sgC_1 rfl ?_
  clear h M
  intro M h
  refine j_aload_n 0 dX2_init_15 rfl ?_
  refine j_bipush 6 dX2_init_16 bp_6 ?_
  refine c_put dX2_init_18 fX2_18 h (by decide) sgC_1 rfl ?_
  clear h M
  intro M h
  refine j_aload_n 0 dX2_init_21 rfl ?_
  refine j_iconst 0 dX2_init_22 ic_0 ?_
  refine c_put dX2_init_23 fX2_21 h (by decide) sgC_1 rfl ?_
  clear h M
  intro M h
  refine j_aload_n 0 dX2_init_26 rfl ?_
  refine j_iconst 1 dX2_init_27 ic_1 ?_
  refine c_put dX2_init_28 fX2_24 h (by decide) sgC_1 rfl ?_
  clear h M
  intro M h
  refine j_aload_n 0 dX2_init_31 rfl ?_
  refine j_iconst 0 dX2_init_32 ic_0 ?_
  refine c_put dX2_init_33 fX2_27 h (by decide) sgC_1 rfl ?_
  clear h M
  intro M h
  refine j_aload_n 0 dX2_init_36 rfl ?_
  refine j_iconst (-1) dX2_init_37 ic_n1 ?_
  refine c_put dX2_init_38 fX2_30 h (by decide) sgC_1 rfl ?_
  clear h M
  intro M h
  refine j_aload_n 0 dX2_init_41 rfl ?_
  refine j_iconst 0 dX2_init_42 ic_0 ?_
  refine c_put dX2_init_43 fX2_33 h (by decide) sgC_1 rfl ?_
  clear h M
  intro M h
  refine j_aload_n 0 dX2_init_46 rfl ?_
  refine j_iconst 0 dX2_init_47 ic_0 ?_
  refine c_put dX2_init_48 fX2_36 h (by decide) sgC_1 rfl ?_
  clear h M
  intro M h
  refine j_aload_n 0 dX2_init_51 rfl ?_
  refine j_iconst 0 dX2_init_52 ic_0 ?_
  refine c_put dX2_init_53 fX2_39 h (by decide) sgC_1 rfl ?_
  clear h M
  intro M h
  refine j_aload_n 0 dX2_init_56 rfl ?_
  refine j_bipush 16 dX2_init_57 bp_16 ?_
  refine c_anew (t := 0) (kc := 25) (ks := 110) (N := 16) dX2_init_59 rfl clX2_42 ao_9 (fun _ => rfl) (by decide) (by decide) (by decide) h sgC_2 (by decide) ?_
  clear h M
  intro M h
  refine c_putrF dX2_init_62 fX2_44 rfl rfl h (by decide) sgC_1 rfl ?_
  clear h M
  intro M h
  refine j_aload_n 0 dX2_init_65 rfl ?_
  refine j_bipush 6 dX2_init_66 bp_6 ?_
  refine c_anew (t := 1) (kc := 24) (ks := 104) (N := 6) dX2_init_68 rfl clX2_48 ao_1 (fun _ => rfl) (by decide) (by decide) (by decide) h sgC_3 (by decide) ?_
  clear h M
  intro M h
  refine c_putrF dX2_init_71 fX2_50 rfl rfl h (by decide) sgC_1 rfl ?_
  clear h M
  intro M h
  refine j_aload_n 0 dX2_init_74 rfl ?_
  refine j_bipush 8 dX2_init_75 bp_8 ?_
  refine c_newI (kc := 23) (ks := 96) (N := 8) dX2_init_77 rfl rfl ac_int (by decide) (by decide) (by decide) h sgC_4 (by decide) ?_
  clear h M
  intro M h
  refine c_putrF dX2_init_79 fX2_54 rfl rfl h (by decide) sgC_1 rfl ?_
  clear h M
  intro M h
  refine j_aload_n 0 dX2_init_82 rfl ?_
  refine j_bipush 8 dX2_init_83 bp_8 ?_
  refine c_newI (kc := 22) (ks := 88) (N := 8) dX2_init_85 rfl rfl ac_int (by decide) (by decide) (by decide) h sgC_5 (by decide) ?_
  clear h M
  intro M h
  refine c_putrF dX2_init_87 fX2_58 rfl rfl h (by decide) sgC_1 rfl ?_
  clear h M
  intro M h
  refine j_iconst 0 dX2_init_90 ic_0 ?_
  refine j_istore_n (L' := [(1, .int 0), (0, .ref 1)]) dX2_init_91 (by decide) rfl ?_
  refine j_iload_n 0 dX2_init_92 rfl ?_
  refine j_aload_n 1 dX2_init_93 rfl ?_
  refine j_getr (q := 2) dX2_init_94 fX2_44 (h.sh (by decide) sgC_1) rfl (h.rd rfl) ?_
  refine j_alen dX2_init_97 (h.sh (by decide) sgC_2) (by decide) ?_
  refine j_icmp_geN (tgt := 120) 0 16 dX2_init_98 rfl (by decide) (by decide) (fun c => absurd c (by decide)) (fun c => ?_)
  refine j_aload_n 1 dX2_init_101 rfl ?_
  refine j_getr (q := 2) dX2_init_102 fX2_44 (h.sh (by decide) sgC_1) rfl (h.rd rfl) ?_
  refine j_iload_n 0 dX2_init_105 rfl ?_
  refine c_new (ci := 9) (kc := 21) (ks := 84) dX2_init_106 rfl nwX2_42 h sgC_6 (by decide) ?_
  clear h M
  intro M h
  refine j_dup dX2_init_109 rfl ?_
  refine j_callIN (kc := 21) (ks := 84) (a := 0) (b := 0) (d' := d) (As := []) (o := 6) dX2_init_110 kX2_61 rfl (by omega) rfl rfl rfl (Nat.le_of_ble_eq_true rfl) (Nat.le_of_ble_eq_true rfl) (T_i_X9 h (by decide) sgC_6) (kk_ev (fun M h => ?_))
  refine c_aast (t := 0) 0 dX2_init_113 h (by decide) sgC_2 (fun _ => rfl) (by decide) sgC_6 rfl (by decide) (by decide) ?_
  clear h M
  intro M h
  refine j_iinc 0 1 (L' := [(1, .int 1), (0, .ref 1)]) dX2_init_114 rfl (by decide) (by decide) rfl ?_
  refine j_goto (tgt := 92) dX2_init_117 rfl ?_
  refine j_iload_n 0 dX2_init_92 rfl ?_
  refine j_aload_n 1 dX2_init_93 rfl ?_
  refine j_getr (q := 2) dX2_init_94 fX2_44 (h.sh (by decide) sgC_1) rfl (h.rd rfl) ?_
  refine j_alen dX2_init_97 (h.sh (by decide) sgC_2) (by decide) ?_
  refine j_icmp_geN (tgt := 120) 1 16 dX2_init_98 rfl (by decide) (by decide) (fun c => absurd c (by decide)) (fun c => ?_)
  refine j_aload_n 1 dX2_init_101 rfl ?_
  refine j_getr (q := 2) dX2_init_102 fX2_44 (h.sh (by decide) sgC_1) rfl (h.rd rfl) ?_
  refine j_iload_n 0 dX2_init_105 rfl ?_
  refine c_new (ci := 9) (kc := 20) (ks := 80) dX2_init_106 rfl nwX2_42 h sgC_7 (by decide) ?_
  clear h M
  intro M h
  refine j_dup dX2_init_109 rfl ?_
  refine j_callIN (kc := 20) (ks := 80) (a := 0) (b := 0) (d' := d) (As := []) (o := 7) dX2_init_110 kX2_61 rfl (by omega) rfl rfl rfl (Nat.le_of_ble_eq_true rfl) (Nat.le_of_ble_eq_true rfl) (T_i_X9 h (by decide) sgC_7) (kk_ev (fun M h => ?_))
  refine c_aast (t := 0) 1 dX2_init_113 h (by decide) sgC_2 (fun _ => rfl) (by decide) sgC_7 rfl (by decide) (by decide) ?_
  clear h M
  intro M h
  refine j_iinc 0 2 (L' := [(1, .int 2), (0, .ref 1)]) dX2_init_114 rfl (by decide) (by decide) rfl ?_
  refine j_goto (tgt := 92) dX2_init_117 rfl ?_
  refine j_iload_n 0 dX2_init_92 rfl ?_
  refine j_aload_n 1 dX2_init_93 rfl ?_
  refine j_getr (q := 2) dX2_init_94 fX2_44 (h.sh (by decide) sgC_1) rfl (h.rd rfl) ?_
  refine j_alen dX2_init_97 (h.sh (by decide) sgC_2) (by decide) ?_
  refine j_icmp_geN (tgt := 120) 2 16 dX2_init_98 rfl (by decide) (by decide) (fun c => absurd c (by decide)) (fun c => ?_)
  refine j_aload_n 1 dX2_init_101 rfl ?_
  refine j_getr (q := 2) dX2_init_102 fX2_44 (h.sh (by decide) sgC_1) rfl (h.rd rfl) ?_
  refine j_iload_n 0 dX2_init_105 rfl ?_
  refine c_new (ci := 9) (kc := 19) (ks := 76) dX2_init_106 rfl nwX2_42 h sgC_8 (by decide) ?_
  clear h M
  intro M h
  refine j_dup dX2_init_109 rfl ?_
  refine j_callIN (kc := 19) (ks := 76) (a := 0) (b := 0) (d' := d) (As := []) (o := 8) dX2_init_110 kX2_61 rfl (by omega) rfl rfl rfl (Nat.le_of_ble_eq_true rfl) (Nat.le_of_ble_eq_true rfl) (T_i_X9 h (by decide) sgC_8) (kk_ev (fun M h => ?_))
  refine c_aast (t := 0) 2 dX2_init_113 h (by decide) sgC_2 (fun _ => rfl) (by decide) sgC_8 rfl (by decide) (by decide) ?_
  clear h M
  intro M h
  refine j_iinc 0 3 (L' := [(1, .int 3), (0, .ref 1)]) dX2_init_114 rfl (by decide) (by decide) rfl ?_
  refine j_goto (tgt := 92) dX2_init_117 rfl ?_
  refine j_iload_n 0 dX2_init_92 rfl ?_
  refine j_aload_n 1 dX2_init_93 rfl ?_
  refine j_getr (q := 2) dX2_init_94 fX2_44 (h.sh (by decide) sgC_1) rfl (h.rd rfl) ?_
  refine j_alen dX2_init_97 (h.sh (by decide) sgC_2) (by decide) ?_
  refine j_icmp_geN (tgt := 120) 3 16 dX2_init_98 rfl (by decide) (by decide) (fun c => absurd c (by decide)) (fun c => ?_)
  refine j_aload_n 1 dX2_init_101 rfl ?_
  refine j_getr (q := 2) dX2_init_102 fX2_44 (h.sh (by decide) sgC_1) rfl (h.rd rfl) ?_
  refine j_iload_n 0 dX2_init_105 rfl ?_
  refine c_new (ci := 9) (kc := 18) (ks := 72) dX2_init_106 rfl nwX2_42 h sgC_9 (by decide) ?_
  clear h M
  intro M h
  refine j_dup dX2_init_109 rfl ?_
  refine j_callIN (kc := 18) (ks := 72) (a := 0) (b := 0) (d' := d) (As := []) (o := 9) dX2_init_110 kX2_61 rfl (by omega) rfl rfl rfl (Nat.le_of_ble_eq_true rfl) (Nat.le_of_ble_eq_true rfl) (T_i_X9 h (by decide) sgC_9) (kk_ev (fun M h => ?_))
  refine c_aast (t := 0) 3 dX2_init_113 h (by decide) sgC_2 (fun _ => rfl) (by decide) sgC_9 rfl (by decide) (by decide) ?_
  clear h M
  intro M h
  refine j_iinc 0 4 (L' := [(1, .int 4), (0, .ref 1)]) dX2_init_114 rfl (by decide) (by decide) rfl ?_
  refine j_goto (tgt := 92) dX2_init_117 rfl ?_
  refine j_iload_n 0 dX2_init_92 rfl ?_
  refine j_aload_n 1 dX2_init_93 rfl ?_
  refine j_getr (q := 2) dX2_init_94 fX2_44 (h.sh (by decide) sgC_1) rfl (h.rd rfl) ?_
  refine j_alen dX2_init_97 (h.sh (by decide) sgC_2) (by decide) ?_
  refine j_icmp_geN (tgt := 120) 4 16 dX2_init_98 rfl (by decide) (by decide) (fun c => absurd c (by decide)) (fun c => ?_)
  refine j_aload_n 1 dX2_init_101 rfl ?_
  refine j_getr (q := 2) dX2_init_102 fX2_44 (h.sh (by decide) sgC_1) rfl (h.rd rfl) ?_
  refine j_iload_n 0 dX2_init_105 rfl ?_
  refine c_new (ci := 9) (kc := 17) (ks := 68) dX2_init_106 rfl nwX2_42 h sgC_10 (by decide) ?_
  clear h M
  intro M h
  refine j_dup dX2_init_109 rfl ?_
  refine j_callIN (kc := 17) (ks := 68) (a := 0) (b := 0) (d' := d) (As := []) (o := 10) dX2_init_110 kX2_61 rfl (by omega) rfl rfl rfl (Nat.le_of_ble_eq_true rfl) (Nat.le_of_ble_eq_true rfl) (T_i_X9 h (by decide) sgC_10) (kk_ev (fun M h => ?_))
  refine c_aast (t := 0) 4 dX2_init_113 h (by decide) sgC_2 (fun _ => rfl) (by decide) sgC_10 rfl (by decide) (by decide) ?_
  clear h M
  intro M h
  refine j_iinc 0 5 (L' := [(1, .int 5), (0, .ref 1)]) dX2_init_114 rfl (by decide) (by decide) rfl ?_
  refine j_goto (tgt := 92) dX2_init_117 rfl ?_
  refine j_iload_n 0 dX2_init_92 rfl ?_
  refine j_aload_n 1 dX2_init_93 rfl ?_
  refine j_getr (q := 2) dX2_init_94 fX2_44 (h.sh (by decide) sgC_1) rfl (h.rd rfl) ?_
  refine j_alen dX2_init_97 (h.sh (by decide) sgC_2) (by decide) ?_
  refine j_icmp_geN (tgt := 120) 5 16 dX2_init_98 rfl (by decide) (by decide) (fun c => absurd c (by decide)) (fun c => ?_)
  refine j_aload_n 1 dX2_init_101 rfl ?_
  refine j_getr (q := 2) dX2_init_102 fX2_44 (h.sh (by decide) sgC_1) rfl (h.rd rfl) ?_
  refine j_iload_n 0 dX2_init_105 rfl ?_
  refine c_new (ci := 9) (kc := 16) (ks := 64) dX2_init_106 rfl nwX2_42 h sgC_11 (by decide) ?_
  clear h M
  intro M h
  refine j_dup dX2_init_109 rfl ?_
  refine j_callIN (kc := 16) (ks := 64) (a := 0) (b := 0) (d' := d) (As := []) (o := 11) dX2_init_110 kX2_61 rfl (by omega) rfl rfl rfl (Nat.le_of_ble_eq_true rfl) (Nat.le_of_ble_eq_true rfl) (T_i_X9 h (by decide) sgC_11) (kk_ev (fun M h => ?_))
  refine c_aast (t := 0) 5 dX2_init_113 h (by decide) sgC_2 (fun _ => rfl) (by decide) sgC_11 rfl (by decide) (by decide) ?_
  clear h M
  intro M h
  refine j_iinc 0 6 (L' := [(1, .int 6), (0, .ref 1)]) dX2_init_114 rfl (by decide) (by decide) rfl ?_
  refine j_goto (tgt := 92) dX2_init_117 rfl ?_
  refine j_iload_n 0 dX2_init_92 rfl ?_
  refine j_aload_n 1 dX2_init_93 rfl ?_
  refine j_getr (q := 2) dX2_init_94 fX2_44 (h.sh (by decide) sgC_1) rfl (h.rd rfl) ?_
  refine j_alen dX2_init_97 (h.sh (by decide) sgC_2) (by decide) ?_
  refine j_icmp_geN (tgt := 120) 6 16 dX2_init_98 rfl (by decide) (by decide) (fun c => absurd c (by decide)) (fun c => ?_)
  refine j_aload_n 1 dX2_init_101 rfl ?_
  refine j_getr (q := 2) dX2_init_102 fX2_44 (h.sh (by decide) sgC_1) rfl (h.rd rfl) ?_
  refine j_iload_n 0 dX2_init_105 rfl ?_
  refine c_new (ci := 9) (kc := 15) (ks := 60) dX2_init_106 rfl nwX2_42 h sgC_12 (by decide) ?_
  clear h M
  intro M h
  refine j_dup dX2_init_109 rfl ?_
  refine j_callIN (kc := 15) (ks := 60) (a := 0) (b := 0) (d' := d) (As := []) (o := 12) dX2_init_110 kX2_61 rfl (by omega) rfl rfl rfl (Nat.le_of_ble_eq_true rfl) (Nat.le_of_ble_eq_true rfl) (T_i_X9 h (by decide) sgC_12) (kk_ev (fun M h => ?_))
  refine c_aast (t := 0) 6 dX2_init_113 h (by decide) sgC_2 (fun _ => rfl) (by decide) sgC_12 rfl (by decide) (by decide) ?_
  clear h M
  intro M h
  refine j_iinc 0 7 (L' := [(1, .int 7), (0, .ref 1)]) dX2_init_114 rfl (by decide) (by decide) rfl ?_
  refine j_goto (tgt := 92) dX2_init_117 rfl ?_
  refine j_iload_n 0 dX2_init_92 rfl ?_
  refine j_aload_n 1 dX2_init_93 rfl ?_
  refine j_getr (q := 2) dX2_init_94 fX2_44 (h.sh (by decide) sgC_1) rfl (h.rd rfl) ?_
  refine j_alen dX2_init_97 (h.sh (by decide) sgC_2) (by decide) ?_
  refine j_icmp_geN (tgt := 120) 7 16 dX2_init_98 rfl (by decide) (by decide) (fun c => absurd c (by decide)) (fun c => ?_)
  refine j_aload_n 1 dX2_init_101 rfl ?_
  refine j_getr (q := 2) dX2_init_102 fX2_44 (h.sh (by decide) sgC_1) rfl (h.rd rfl) ?_
  refine j_iload_n 0 dX2_init_105 rfl ?_
  refine c_new (ci := 9) (kc := 14) (ks := 56) dX2_init_106 rfl nwX2_42 h sgC_13 (by decide) ?_
  clear h M
  intro M h
  refine j_dup dX2_init_109 rfl ?_
  refine j_callIN (kc := 14) (ks := 56) (a := 0) (b := 0) (d' := d) (As := []) (o := 13) dX2_init_110 kX2_61 rfl (by omega) rfl rfl rfl (Nat.le_of_ble_eq_true rfl) (Nat.le_of_ble_eq_true rfl) (T_i_X9 h (by decide) sgC_13) (kk_ev (fun M h => ?_))
  refine c_aast (t := 0) 7 dX2_init_113 h (by decide) sgC_2 (fun _ => rfl) (by decide) sgC_13 rfl (by decide) (by decide) ?_
  clear h M
  intro M h
  refine j_iinc 0 8 (L' := [(1, .int 8), (0, .ref 1)]) dX2_init_114 rfl (by decide) (by decide) rfl ?_
  refine j_goto (tgt := 92) dX2_init_117 rfl ?_
  refine j_iload_n 0 dX2_init_92 rfl ?_
  refine j_aload_n 1 dX2_init_93 rfl ?_
  refine j_getr (q := 2) dX2_init_94 fX2_44 (h.sh (by decide) sgC_1) rfl (h.rd rfl) ?_
  refine j_alen dX2_init_97 (h.sh (by decide) sgC_2) (by decide) ?_
  refine j_icmp_geN (tgt := 120) 8 16 dX2_init_98 rfl (by decide) (by decide) (fun c => absurd c (by decide)) (fun c => ?_)
  refine j_aload_n 1 dX2_init_101 rfl ?_
  refine j_getr (q := 2) dX2_init_102 fX2_44 (h.sh (by decide) sgC_1) rfl (h.rd rfl) ?_
  refine j_iload_n 0 dX2_init_105 rfl ?_
  refine c_new (ci := 9) (kc := 13) (ks := 52) dX2_init_106 rfl nwX2_42 h sgC_14 (by decide) ?_
  clear h M
  intro M h
  refine j_dup dX2_init_109 rfl ?_
  refine j_callIN (kc := 13) (ks := 52) (a := 0) (b := 0) (d' := d) (As := []) (o := 14) dX2_init_110 kX2_61 rfl (by omega) rfl rfl rfl (Nat.le_of_ble_eq_true rfl) (Nat.le_of_ble_eq_true rfl) (T_i_X9 h (by decide) sgC_14) (kk_ev (fun M h => ?_))
  refine c_aast (t := 0) 8 dX2_init_113 h (by decide) sgC_2 (fun _ => rfl) (by decide) sgC_14 rfl (by decide) (by decide) ?_
  clear h M
  intro M h
  refine j_iinc 0 9 (L' := [(1, .int 9), (0, .ref 1)]) dX2_init_114 rfl (by decide) (by decide) rfl ?_
  refine j_goto (tgt := 92) dX2_init_117 rfl ?_
  refine j_iload_n 0 dX2_init_92 rfl ?_
  refine j_aload_n 1 dX2_init_93 rfl ?_
  refine j_getr (q := 2) dX2_init_94 fX2_44 (h.sh (by decide) sgC_1) rfl (h.rd rfl) ?_
  refine j_alen dX2_init_97 (h.sh (by decide) sgC_2) (by decide) ?_
  refine j_icmp_geN (tgt := 120) 9 16 dX2_init_98 rfl (by decide) (by decide) (fun c => absurd c (by decide)) (fun c => ?_)
  refine j_aload_n 1 dX2_init_101 rfl ?_
  refine j_getr (q := 2) dX2_init_102 fX2_44 (h.sh (by decide) sgC_1) rfl (h.rd rfl) ?_
  refine j_iload_n 0 dX2_init_105 rfl ?_
  refine c_new (ci := 9) (kc := 12) (ks := 48) dX2_init_106 rfl nwX2_42 h sgC_15 (by decide) ?_
  clear h M
  intro M h
  refine j_dup dX2_init_109 rfl ?_
  refine j_callIN (kc := 12) (ks := 48) (a := 0) (b := 0) (d' := d) (As := []) (o := 15) dX2_init_110 kX2_61 rfl (by omega) rfl rfl rfl (Nat.le_of_ble_eq_true rfl) (Nat.le_of_ble_eq_true rfl) (T_i_X9 h (by decide) sgC_15) (kk_ev (fun M h => ?_))
  refine c_aast (t := 0) 9 dX2_init_113 h (by decide) sgC_2 (fun _ => rfl) (by decide) sgC_15 rfl (by decide) (by decide) ?_
  clear h M
  intro M h
  refine j_iinc 0 10 (L' := [(1, .int 10), (0, .ref 1)]) dX2_init_114 rfl (by decide) (by decide) rfl ?_
  refine j_goto (tgt := 92) dX2_init_117 rfl ?_
  refine j_iload_n 0 dX2_init_92 rfl ?_
  refine j_aload_n 1 dX2_init_93 rfl ?_
  refine j_getr (q := 2) dX2_init_94 fX2_44 (h.sh (by decide) sgC_1) rfl (h.rd rfl) ?_
  refine j_alen dX2_init_97 (h.sh (by decide) sgC_2) (by decide) ?_
  refine j_icmp_geN (tgt := 120) 10 16 dX2_init_98 rfl (by decide) (by decide) (fun c => absurd c (by decide)) (fun c => ?_)
  refine j_aload_n 1 dX2_init_101 rfl ?_
  refine j_getr (q := 2) dX2_init_102 fX2_44 (h.sh (by decide) sgC_1) rfl (h.rd rfl) ?_
  refine j_iload_n 0 dX2_init_105 rfl ?_
  refine c_new (ci := 9) (kc := 11) (ks := 44) dX2_init_106 rfl nwX2_42 h sgC_16 (by decide) ?_
  clear h M
  intro M h
  refine j_dup dX2_init_109 rfl ?_
  refine j_callIN (kc := 11) (ks := 44) (a := 0) (b := 0) (d' := d) (As := []) (o := 16) dX2_init_110 kX2_61 rfl (by omega) rfl rfl rfl (Nat.le_of_ble_eq_true rfl) (Nat.le_of_ble_eq_true rfl) (T_i_X9 h (by decide) sgC_16) (kk_ev (fun M h => ?_))
  refine c_aast (t := 0) 10 dX2_init_113 h (by decide) sgC_2 (fun _ => rfl) (by decide) sgC_16 rfl (by decide) (by decide) ?_
  clear h M
  intro M h
  refine j_iinc 0 11 (L' := [(1, .int 11), (0, .ref 1)]) dX2_init_114 rfl (by decide) (by decide) rfl ?_
  refine j_goto (tgt := 92) dX2_init_117 rfl ?_
  refine j_iload_n 0 dX2_init_92 rfl ?_
  refine j_aload_n 1 dX2_init_93 rfl ?_
  refine j_getr (q := 2) dX2_init_94 fX2_44 (h.sh (by decide) sgC_1) rfl (h.rd rfl) ?_
  refine j_alen dX2_init_97 (h.sh (by decide) sgC_2) (by decide) ?_
  refine j_icmp_geN (tgt := 120) 11 16 dX2_init_98 rfl (by decide) (by decide) (fun c => absurd c (by decide)) (fun c => ?_)
  refine j_aload_n 1 dX2_init_101 rfl ?_
  refine j_getr (q := 2) dX2_init_102 fX2_44 (h.sh (by decide) sgC_1) rfl (h.rd rfl) ?_
  refine j_iload_n 0 dX2_init_105 rfl ?_
  refine c_new (ci := 9) (kc := 10) (ks := 40) dX2_init_106 rfl nwX2_42 h sgC_17 (by decide) ?_
  clear h M
  intro M h
  refine j_dup dX2_init_109 rfl ?_
  refine j_callIN (kc := 10) (ks := 40) (a := 0) (b := 0) (d' := d) (As := []) (o := 17) dX2_init_110 kX2_61 rfl (by omega) rfl rfl rfl (Nat.le_of_ble_eq_true rfl) (Nat.le_of_ble_eq_true rfl) (T_i_X9 h (by decide) sgC_17) (kk_ev (fun M h => ?_))
  refine c_aast (t := 0) 11 dX2_init_113 h (by decide) sgC_2 (fun _ => rfl) (by decide) sgC_17 rfl (by decide) (by decide) ?_
  clear h M
  intro M h
  refine j_iinc 0 12 (L' := [(1, .int 12), (0, .ref 1)]) dX2_init_114 rfl (by decide) (by decide) rfl ?_
  refine j_goto (tgt := 92) dX2_init_117 rfl ?_
  refine j_iload_n 0 dX2_init_92 rfl ?_
  refine j_aload_n 1 dX2_init_93 rfl ?_
  refine j_getr (q := 2) dX2_init_94 fX2_44 (h.sh (by decide) sgC_1) rfl (h.rd rfl) ?_
  refine j_alen dX2_init_97 (h.sh (by decide) sgC_2) (by decide) ?_
  refine j_icmp_geN (tgt := 120) 12 16 dX2_init_98 rfl (by decide) (by decide) (fun c => absurd c (by decide)) (fun c => ?_)
  refine j_aload_n 1 dX2_init_101 rfl ?_
  refine j_getr (q := 2) dX2_init_102 fX2_44 (h.sh (by decide) sgC_1) rfl (h.rd rfl) ?_
  refine j_iload_n 0 dX2_init_105 rfl ?_
  refine c_new (ci := 9) (kc := 9) (ks := 36) dX2_init_106 rfl nwX2_42 h sgC_18 (by decide) ?_
  clear h M
  intro M h
  refine j_dup dX2_init_109 rfl ?_
  refine j_callIN (kc := 9) (ks := 36) (a := 0) (b := 0) (d' := d) (As := []) (o := 18) dX2_init_110 kX2_61 rfl (by omega) rfl rfl rfl (Nat.le_of_ble_eq_true rfl) (Nat.le_of_ble_eq_true rfl) (T_i_X9 h (by decide) sgC_18) (kk_ev (fun M h => ?_))
  refine c_aast (t := 0) 12 dX2_init_113 h (by decide) sgC_2 (fun _ => rfl) (by decide) sgC_18 rfl (by decide) (by decide) ?_
  clear h M
  intro M h
  refine j_iinc 0 13 (L' := [(1, .int 13), (0, .ref 1)]) dX2_init_114 rfl (by decide) (by decide) rfl ?_
  refine j_goto (tgt := 92) dX2_init_117 rfl ?_
  refine j_iload_n 0 dX2_init_92 rfl ?_
  refine j_aload_n 1 dX2_init_93 rfl ?_
  refine j_getr (q := 2) dX2_init_94 fX2_44 (h.sh (by decide) sgC_1) rfl (h.rd rfl) ?_
  refine j_alen dX2_init_97 (h.sh (by decide) sgC_2) (by decide) ?_
  refine j_icmp_geN (tgt := 120) 13 16 dX2_init_98 rfl (by decide) (by decide) (fun c => absurd c (by decide)) (fun c => ?_)
  refine j_aload_n 1 dX2_init_101 rfl ?_
  refine j_getr (q := 2) dX2_init_102 fX2_44 (h.sh (by decide) sgC_1) rfl (h.rd rfl) ?_
  refine j_iload_n 0 dX2_init_105 rfl ?_
  refine c_new (ci := 9) (kc := 8) (ks := 32) dX2_init_106 rfl nwX2_42 h sgC_19 (by decide) ?_
  clear h M
  intro M h
  refine j_dup dX2_init_109 rfl ?_
  refine j_callIN (kc := 8) (ks := 32) (a := 0) (b := 0) (d' := d) (As := []) (o := 19) dX2_init_110 kX2_61 rfl (by omega) rfl rfl rfl (Nat.le_of_ble_eq_true rfl) (Nat.le_of_ble_eq_true rfl) (T_i_X9 h (by decide) sgC_19) (kk_ev (fun M h => ?_))
  refine c_aast (t := 0) 13 dX2_init_113 h (by decide) sgC_2 (fun _ => rfl) (by decide) sgC_19 rfl (by decide) (by decide) ?_
  clear h M
  intro M h
  refine j_iinc 0 14 (L' := [(1, .int 14), (0, .ref 1)]) dX2_init_114 rfl (by decide) (by decide) rfl ?_
  refine j_goto (tgt := 92) dX2_init_117 rfl ?_
  refine j_iload_n 0 dX2_init_92 rfl ?_
  refine j_aload_n 1 dX2_init_93 rfl ?_
  refine j_getr (q := 2) dX2_init_94 fX2_44 (h.sh (by decide) sgC_1) rfl (h.rd rfl) ?_
  refine j_alen dX2_init_97 (h.sh (by decide) sgC_2) (by decide) ?_
  refine j_icmp_geN (tgt := 120) 14 16 dX2_init_98 rfl (by decide) (by decide) (fun c => absurd c (by decide)) (fun c => ?_)
  refine j_aload_n 1 dX2_init_101 rfl ?_
  refine j_getr (q := 2) dX2_init_102 fX2_44 (h.sh (by decide) sgC_1) rfl (h.rd rfl) ?_
  refine j_iload_n 0 dX2_init_105 rfl ?_
  refine c_new (ci := 9) (kc := 7) (ks := 28) dX2_init_106 rfl nwX2_42 h sgC_20 (by decide) ?_
  clear h M
  intro M h
  refine j_dup dX2_init_109 rfl ?_
  refine j_callIN (kc := 7) (ks := 28) (a := 0) (b := 0) (d' := d) (As := []) (o := 20) dX2_init_110 kX2_61 rfl (by omega) rfl rfl rfl (Nat.le_of_ble_eq_true rfl) (Nat.le_of_ble_eq_true rfl) (T_i_X9 h (by decide) sgC_20) (kk_ev (fun M h => ?_))
  refine c_aast (t := 0) 14 dX2_init_113 h (by decide) sgC_2 (fun _ => rfl) (by decide) sgC_20 rfl (by decide) (by decide) ?_
  clear h M
  intro M h
  refine j_iinc 0 15 (L' := [(1, .int 15), (0, .ref 1)]) dX2_init_114 rfl (by decide) (by decide) rfl ?_
  refine j_goto (tgt := 92) dX2_init_117 rfl ?_
  refine j_iload_n 0 dX2_init_92 rfl ?_
  refine j_aload_n 1 dX2_init_93 rfl ?_
  refine j_getr (q := 2) dX2_init_94 fX2_44 (h.sh (by decide) sgC_1) rfl (h.rd rfl) ?_
  refine j_alen dX2_init_97 (h.sh (by decide) sgC_2) (by decide) ?_
  refine j_icmp_geN (tgt := 120) 15 16 dX2_init_98 rfl (by decide) (by decide) (fun c => absurd c (by decide)) (fun c => ?_)
  refine j_aload_n 1 dX2_init_101 rfl ?_
  refine j_getr (q := 2) dX2_init_102 fX2_44 (h.sh (by decide) sgC_1) rfl (h.rd rfl) ?_
  refine j_iload_n 0 dX2_init_105 rfl ?_
  refine c_new (ci := 9) (kc := 6) (ks := 24) dX2_init_106 rfl nwX2_42 h sgC_21 (by decide) ?_
  clear h M
  intro M h
  refine j_dup dX2_init_109 rfl ?_
  refine j_callIN (kc := 6) (ks := 24) (a := 0) (b := 0) (d' := d) (As := []) (o := 21) dX2_init_110 kX2_61 rfl (by omega) rfl rfl rfl (Nat.le_of_ble_eq_true rfl) (Nat.le_of_ble_eq_true rfl) (T_i_X9 h (by decide) sgC_21) (kk_ev (fun M h => ?_))
  refine c_aast (t := 0) 15 dX2_init_113 h (by decide) sgC_2 (fun _ => rfl) (by decide) sgC_21 rfl (by decide) (by decide) ?_
  clear h M
  intro M h
  refine j_iinc 0 16 (L' := [(1, .int 16), (0, .ref 1)]) dX2_init_114 rfl (by decide) (by decide) rfl ?_
  refine j_goto (tgt := 92) dX2_init_117 rfl ?_
  refine j_iload_n 0 dX2_init_92 rfl ?_
  refine j_aload_n 1 dX2_init_93 rfl ?_
  refine j_getr (q := 2) dX2_init_94 fX2_44 (h.sh (by decide) sgC_1) rfl (h.rd rfl) ?_
  refine j_alen dX2_init_97 (h.sh (by decide) sgC_2) (by decide) ?_
  refine j_icmp_geN (tgt := 120) 16 16 dX2_init_98 rfl (by decide) (by decide) (fun c => ?_) (fun c => absurd c (by decide))
  refine j_iconst 0 dX2_init_120 ic_0 ?_
  refine j_istore_n (L' := [(1, .int 0), (0, .ref 1)]) dX2_init_121 (by decide) rfl ?_
  refine j_iload_n 0 dX2_init_122 rfl ?_
  refine j_aload_n 1 dX2_init_123 rfl ?_
  refine j_getr (q := 3) dX2_init_124 fX2_50 (h.sh (by decide) sgC_1) rfl (h.rd rfl) ?_
  refine j_alen dX2_init_127 (h.sh (by decide) sgC_3) (by decide) ?_
  refine j_icmp_geN (tgt := 150) 0 6 dX2_init_128 rfl (by decide) (by decide) (fun c => absurd c (by decide)) (fun c => ?_)
  refine j_aload_n 1 dX2_init_131 rfl ?_
  refine j_getr (q := 3) dX2_init_132 fX2_50 (h.sh (by decide) sgC_1) rfl (h.rd rfl) ?_
  refine j_iload_n 0 dX2_init_135 rfl ?_
  refine c_new (ci := 1) (kc := 5) (ks := 20) dX2_init_136 rfl nwX2_48 h sgC_22 (by decide) ?_
  clear h M
  intro M h
  refine j_dup dX2_init_139 rfl ?_
  refine j_callIN (kc := 5) (ks := 20) (a := 0) (b := 0) (d' := d) (As := []) (o := 22) dX2_init_140 kX2_62 rfl (by omega) rfl rfl rfl (Nat.le_of_ble_eq_true rfl) (Nat.le_of_ble_eq_true rfl) (T_i_X1 h (by decide) sgC_22) (kk_ev (fun M h => ?_))
  refine c_aast (t := 1) 0 dX2_init_143 h (by decide) sgC_3 (fun _ => rfl) (by decide) sgC_22 rfl (by decide) (by decide) ?_
  clear h M
  intro M h
  refine j_iinc 0 1 (L' := [(1, .int 1), (0, .ref 1)]) dX2_init_144 rfl (by decide) (by decide) rfl ?_
  refine j_goto (tgt := 122) dX2_init_147 rfl ?_
  refine j_iload_n 0 dX2_init_122 rfl ?_
  refine j_aload_n 1 dX2_init_123 rfl ?_
  refine j_getr (q := 3) dX2_init_124 fX2_50 (h.sh (by decide) sgC_1) rfl (h.rd rfl) ?_
  refine j_alen dX2_init_127 (h.sh (by decide) sgC_3) (by decide) ?_
  refine j_icmp_geN (tgt := 150) 1 6 dX2_init_128 rfl (by decide) (by decide) (fun c => absurd c (by decide)) (fun c => ?_)
  refine j_aload_n 1 dX2_init_131 rfl ?_
  refine j_getr (q := 3) dX2_init_132 fX2_50 (h.sh (by decide) sgC_1) rfl (h.rd rfl) ?_
  refine j_iload_n 0 dX2_init_135 rfl ?_
  refine c_new (ci := 1) (kc := 4) (ks := 16) dX2_init_136 rfl nwX2_48 h sgC_23 (by decide) ?_
  clear h M
  intro M h
  refine j_dup dX2_init_139 rfl ?_
  refine j_callIN (kc := 4) (ks := 16) (a := 0) (b := 0) (d' := d) (As := []) (o := 23) dX2_init_140 kX2_62 rfl (by omega) rfl rfl rfl (Nat.le_of_ble_eq_true rfl) (Nat.le_of_ble_eq_true rfl) (T_i_X1 h (by decide) sgC_23) (kk_ev (fun M h => ?_))
  refine c_aast (t := 1) 1 dX2_init_143 h (by decide) sgC_3 (fun _ => rfl) (by decide) sgC_23 rfl (by decide) (by decide) ?_
  clear h M
  intro M h
  refine j_iinc 0 2 (L' := [(1, .int 2), (0, .ref 1)]) dX2_init_144 rfl (by decide) (by decide) rfl ?_
  refine j_goto (tgt := 122) dX2_init_147 rfl ?_
  refine j_iload_n 0 dX2_init_122 rfl ?_
  refine j_aload_n 1 dX2_init_123 rfl ?_
  refine j_getr (q := 3) dX2_init_124 fX2_50 (h.sh (by decide) sgC_1) rfl (h.rd rfl) ?_
  refine j_alen dX2_init_127 (h.sh (by decide) sgC_3) (by decide) ?_
  refine j_icmp_geN (tgt := 150) 2 6 dX2_init_128 rfl (by decide) (by decide) (fun c => absurd c (by decide)) (fun c => ?_)
  refine j_aload_n 1 dX2_init_131 rfl ?_
  refine j_getr (q := 3) dX2_init_132 fX2_50 (h.sh (by decide) sgC_1) rfl (h.rd rfl) ?_
  refine j_iload_n 0 dX2_init_135 rfl ?_
  refine c_new (ci := 1) (kc := 3) (ks := 12) dX2_init_136 rfl nwX2_48 h sgC_24 (by decide) ?_
  clear h M
  intro M h
  refine j_dup dX2_init_139 rfl ?_
  refine j_callIN (kc := 3) (ks := 12) (a := 0) (b := 0) (d' := d) (As := []) (o := 24) dX2_init_140 kX2_62 rfl (by omega) rfl rfl rfl (Nat.le_of_ble_eq_true rfl) (Nat.le_of_ble_eq_true rfl) (T_i_X1 h (by decide) sgC_24) (kk_ev (fun M h => ?_))
  refine c_aast (t := 1) 2 dX2_init_143 h (by decide) sgC_3 (fun _ => rfl) (by decide) sgC_24 rfl (by decide) (by decide) ?_
  clear h M
  intro M h
  refine j_iinc 0 3 (L' := [(1, .int 3), (0, .ref 1)]) dX2_init_144 rfl (by decide) (by decide) rfl ?_
  refine j_goto (tgt := 122) dX2_init_147 rfl ?_
  refine j_iload_n 0 dX2_init_122 rfl ?_
  refine j_aload_n 1 dX2_init_123 rfl ?_
  refine j_getr (q := 3) dX2_init_124 fX2_50 (h.sh (by decide) sgC_1) rfl (h.rd rfl) ?_
  refine j_alen dX2_init_127 (h.sh (by decide) sgC_3) (by decide) ?_
  refine j_icmp_geN (tgt := 150) 3 6 dX2_init_128 rfl (by decide) (by decide) (fun c => absurd c (by decide)) (fun c => ?_)
  refine j_aload_n 1 dX2_init_131 rfl ?_
  refine j_getr (q := 3) dX2_init_132 fX2_50 (h.sh (by decide) sgC_1) rfl (h.rd rfl) ?_
  refine j_iload_n 0 dX2_init_135 rfl ?_
  refine c_new (ci := 1) (kc := 2) (ks := 8) dX2_init_136 rfl nwX2_48 h sgC_25 (by decide) ?_
  clear h M
  intro M h
  refine j_dup dX2_init_139 rfl ?_
  refine j_callIN (kc := 2) (ks := 8) (a := 0) (b := 0) (d' := d) (As := []) (o := 25) dX2_init_140 kX2_62 rfl (by omega) rfl rfl rfl (Nat.le_of_ble_eq_true rfl) (Nat.le_of_ble_eq_true rfl) (T_i_X1 h (by decide) sgC_25) (kk_ev (fun M h => ?_))
  refine c_aast (t := 1) 3 dX2_init_143 h (by decide) sgC_3 (fun _ => rfl) (by decide) sgC_25 rfl (by decide) (by decide) ?_
  clear h M
  intro M h
  refine j_iinc 0 4 (L' := [(1, .int 4), (0, .ref 1)]) dX2_init_144 rfl (by decide) (by decide) rfl ?_
  refine j_goto (tgt := 122) dX2_init_147 rfl ?_
  refine j_iload_n 0 dX2_init_122 rfl ?_
  refine j_aload_n 1 dX2_init_123 rfl ?_
  refine j_getr (q := 3) dX2_init_124 fX2_50 (h.sh (by decide) sgC_1) rfl (h.rd rfl) ?_
  refine j_alen dX2_init_127 (h.sh (by decide) sgC_3) (by decide) ?_
  refine j_icmp_geN (tgt := 150) 4 6 dX2_init_128 rfl (by decide) (by decide) (fun c => absurd c (by decide)) (fun c => ?_)
  refine j_aload_n 1 dX2_init_131 rfl ?_
  refine j_getr (q := 3) dX2_init_132 fX2_50 (h.sh (by decide) sgC_1) rfl (h.rd rfl) ?_
  refine j_iload_n 0 dX2_init_135 rfl ?_
  refine c_new (ci := 1) (kc := 1) (ks := 4) dX2_init_136 rfl nwX2_48 h sgC_26 (by decide) ?_
  clear h M
  intro M h
  refine j_dup dX2_init_139 rfl ?_
  refine j_callIN (kc := 1) (ks := 4) (a := 0) (b := 0) (d' := d) (As := []) (o := 26) dX2_init_140 kX2_62 rfl (by omega) rfl rfl rfl (Nat.le_of_ble_eq_true rfl) (Nat.le_of_ble_eq_true rfl) (T_i_X1 h (by decide) sgC_26) (kk_ev (fun M h => ?_))
  refine c_aast (t := 1) 4 dX2_init_143 h (by decide) sgC_3 (fun _ => rfl) (by decide) sgC_26 rfl (by decide) (by decide) ?_
  clear h M
  intro M h
  refine j_iinc 0 5 (L' := [(1, .int 5), (0, .ref 1)]) dX2_init_144 rfl (by decide) (by decide) rfl ?_
  refine j_goto (tgt := 122) dX2_init_147 rfl ?_
  refine j_iload_n 0 dX2_init_122 rfl ?_
  refine j_aload_n 1 dX2_init_123 rfl ?_
  refine j_getr (q := 3) dX2_init_124 fX2_50 (h.sh (by decide) sgC_1) rfl (h.rd rfl) ?_
  refine j_alen dX2_init_127 (h.sh (by decide) sgC_3) (by decide) ?_
  refine j_icmp_geN (tgt := 150) 5 6 dX2_init_128 rfl (by decide) (by decide) (fun c => absurd c (by decide)) (fun c => ?_)
  refine j_aload_n 1 dX2_init_131 rfl ?_
  refine j_getr (q := 3) dX2_init_132 fX2_50 (h.sh (by decide) sgC_1) rfl (h.rd rfl) ?_
  refine j_iload_n 0 dX2_init_135 rfl ?_
  refine c_new (ci := 1) (kc := 0) (ks := 0) dX2_init_136 rfl nwX2_48 h sgC_27 (by decide) ?_
  clear h M
  intro M h
  refine j_dup dX2_init_139 rfl ?_
  refine j_callIN (kc := 0) (ks := 0) (a := 0) (b := 0) (d' := d) (As := []) (o := 27) dX2_init_140 kX2_62 rfl (by omega) rfl rfl rfl (Nat.le_of_ble_eq_true rfl) (Nat.le_of_ble_eq_true rfl) (T_i_X1 h (by decide) sgC_27) (kk_ev (fun M h => ?_))
  refine c_aast (t := 1) 5 dX2_init_143 h (by decide) sgC_3 (fun _ => rfl) (by decide) sgC_27 rfl (by decide) (by decide) ?_
  clear h M
  intro M h
  refine j_iinc 0 6 (L' := [(1, .int 6), (0, .ref 1)]) dX2_init_144 rfl (by decide) (by decide) rfl ?_
  refine j_goto (tgt := 122) dX2_init_147 rfl ?_
  refine j_iload_n 0 dX2_init_122 rfl ?_
  refine j_aload_n 1 dX2_init_123 rfl ?_
  refine j_getr (q := 3) dX2_init_124 fX2_50 (h.sh (by decide) sgC_1) rfl (h.rd rfl) ?_
  refine j_alen dX2_init_127 (h.sh (by decide) sgC_3) (by decide) ?_
  refine j_icmp_geN (tgt := 150) 6 6 dX2_init_128 rfl (by decide) (by decide) (fun c => ?_) (fun c => absurd c (by decide))
  refine j_vret dX2_init_150 rfl ?_
  exact hQ _ _ ⟨rfl, h⟩
set_option maxRecDepth 20000 in
set_option maxHeartbeats 4000000 in
theorem T_i_X2_28 {d : Nat} {W : List (Nat × Nat × Nat)} {V : List (Nat × Nat × Int32)} {M : jk_M} (h : SL jGC 29 W V M) : J Fr_X2_init (d + 1) 26 126 0 [(0, .ref 28)] [] M (jk_ex none (fun M1 => SL jGC 55 ((30, 5, 54) :: (30, 4, 53) :: (30, 3, 52) :: (30, 2, 51) :: (30, 1, 50) :: (30, 0, 49) :: (29, 15, 48) :: (29, 14, 47) :: (29, 13, 46) :: (29, 12, 45) :: (29, 11, 44) :: (29, 10, 43) :: (29, 9, 42) :: (29, 8, 41) :: (29, 7, 40) :: (29, 6, 39) :: (29, 5, 38) :: (29, 4, 37) :: (29, 3, 36) :: (29, 2, 35) :: (29, 1, 34) :: (29, 0, 33) :: (28, 13, 32) :: (28, 12, 31) :: (28, 11, 30) :: (28, 10, 29) :: W) ((54, 3, 0) :: (54, 2, 1) :: (54, 1, 1) :: (54, 0, 0) :: (53, 3, 0) :: (53, 2, 1) :: (53, 1, 1) :: (53, 0, 0) :: (52, 3, 0) :: (52, 2, 1) :: (52, 1, 1) :: (52, 0, 0) :: (51, 3, 0) :: (51, 2, 1) :: (51, 1, 1) :: (51, 0, 0) :: (50, 3, 0) :: (50, 2, 1) :: (50, 1, 1) :: (50, 0, 0) :: (49, 3, 0) :: (49, 2, 1) :: (49, 1, 1) :: (49, 0, 0) :: (48, 3, 1) :: (48, 2, 0) :: (48, 1, 0) :: (48, 0, 0) :: (47, 3, 1) :: (47, 2, 0) :: (47, 1, 0) :: (47, 0, 0) :: (46, 3, 1) :: (46, 2, 0) :: (46, 1, 0) :: (46, 0, 0) :: (45, 3, 1) :: (45, 2, 0) :: (45, 1, 0) :: (45, 0, 0) :: (44, 3, 1) :: (44, 2, 0) :: (44, 1, 0) :: (44, 0, 0) :: (43, 3, 1) :: (43, 2, 0) :: (43, 1, 0) :: (43, 0, 0) :: (42, 3, 1) :: (42, 2, 0) :: (42, 1, 0) :: (42, 0, 0) :: (41, 3, 1) :: (41, 2, 0) :: (41, 1, 0) :: (41, 0, 0) :: (40, 3, 1) :: (40, 2, 0) :: (40, 1, 0) :: (40, 0, 0) :: (39, 3, 1) :: (39, 2, 0) :: (39, 1, 0) :: (39, 0, 0) :: (38, 3, 1) :: (38, 2, 0) :: (38, 1, 0) :: (38, 0, 0) :: (37, 3, 1) :: (37, 2, 0) :: (37, 1, 0) :: (37, 0, 0) :: (36, 3, 1) :: (36, 2, 0) :: (36, 1, 0) :: (36, 0, 0) :: (35, 3, 1) :: (35, 2, 0) :: (35, 1, 0) :: (35, 0, 0) :: (34, 3, 1) :: (34, 2, 0) :: (34, 1, 0) :: (34, 0, 0) :: (33, 3, 1) :: (33, 2, 0) :: (33, 1, 0) :: (33, 0, 0) :: (28, 9, 0) :: (28, 8, 0) :: (28, 7, 0) :: (28, 6, (-1)) :: (28, 5, 0) :: (28, 4, 1) :: (28, 3, 0) :: (28, 2, 6) :: (28, 1, 50) :: (28, 0, 4) :: V) M1)) := by
  refine j_post (fun Q hQ => ?_)
  refine j_aload_n 0 dX2_init_0 rfl ?_
  refine j_objInit dX2_init_1 mX2_3 ob_init.1 ob_init.2 (Nat.le_of_ble_eq_true rfl) ?_
  refine j_aload_n 0 dX2_init_4 rfl ?_
  refine j_iconst 4 dX2_init_5 ic_4 ?_
  refine c_put dX2_init_6 fX2_9 h (by decide) sgC_28 rfl ?_
  clear h M
  intro M h
  refine j_aload_n 0 dX2_init_9 rfl ?_
  refine j_bipush 50 dX2_init_10 bp_50 ?_
  refine c_put dX2_init_12 fX2_15 h (by decide) sgC_28 rfl ?_
  clear h M
  intro M h
  refine j_aload_n 0 dX2_init_15 rfl ?_
  refine j_bipush 6 dX2_init_16 bp_6 ?_
  refine c_put dX2_init_18 fX2_18 h (by decide) sgC_28 rfl ?_
  clear h M
  intro M h
  refine j_aload_n 0 dX2_init_21 rfl ?_
  refine j_iconst 0 dX2_init_22 ic_0 ?_
  refine c_put dX2_init_23 fX2_21 h (by decide) sgC_28 rfl ?_
  clear h M
  intro M h
  refine j_aload_n 0 dX2_init_26 rfl ?_
  refine j_iconst 1 dX2_init_27 ic_1 ?_
  refine c_put dX2_init_28 fX2_24 h (by decide) sgC_28 rfl ?_
  clear h M
  intro M h
  refine j_aload_n 0 dX2_init_31 rfl ?_
  refine j_iconst 0 dX2_init_32 ic_0 ?_
  refine c_put dX2_init_33 fX2_27 h (by decide) sgC_28 rfl ?_
  clear h M
  intro M h
  refine j_aload_n 0 dX2_init_36 rfl ?_
  refine j_iconst (-1) dX2_init_37 ic_n1 ?_
  refine c_put dX2_init_38 fX2_30 h (by decide) sgC_28 rfl ?_
  clear h M
  intro M h
  refine j_aload_n 0 dX2_init_41 rfl ?_
  refine j_iconst 0 dX2_init_42 ic_0 ?_
  refine c_put dX2_init_43 fX2_33 h (by decide) sgC_28 rfl ?_
  clear h M
  intro M h
  refine j_aload_n 0 dX2_init_46 rfl ?_
  refine j_iconst 0 dX2_init_47 ic_0 ?_
  refine c_put dX2_init_48 fX2_36 h (by decide) sgC_28 rfl ?_
  clear h M
  intro M h
  refine j_aload_n 0 dX2_init_51 rfl ?_
  refine j_iconst 0 dX2_init_52 ic_0 ?_
  refine c_put dX2_init_53 fX2_39 h (by decide) sgC_28 rfl ?_
  clear h M
  intro M h
  refine j_aload_n 0 dX2_init_56 rfl ?_
  refine j_bipush 16 dX2_init_57 bp_16 ?_
  refine c_anew (t := 0) (kc := 25) (ks := 110) (N := 16) dX2_init_59 rfl clX2_42 ao_9 (fun _ => rfl) (by decide) (by decide) (by decide) h sgC_29 (by decide) ?_
  clear h M
  intro M h
  refine c_putrF dX2_init_62 fX2_44 rfl rfl h (by decide) sgC_28 rfl ?_
  clear h M
  intro M h
  refine j_aload_n 0 dX2_init_65 rfl ?_
  refine j_bipush 6 dX2_init_66 bp_6 ?_
  refine c_anew (t := 1) (kc := 24) (ks := 104) (N := 6) dX2_init_68 rfl clX2_48 ao_1 (fun _ => rfl) (by decide) (by decide) (by decide) h sgC_30 (by decide) ?_
  clear h M
  intro M h
  refine c_putrF dX2_init_71 fX2_50 rfl rfl h (by decide) sgC_28 rfl ?_
  clear h M
  intro M h
  refine j_aload_n 0 dX2_init_74 rfl ?_
  refine j_bipush 8 dX2_init_75 bp_8 ?_
  refine c_newI (kc := 23) (ks := 96) (N := 8) dX2_init_77 rfl rfl ac_int (by decide) (by decide) (by decide) h sgC_31 (by decide) ?_
  clear h M
  intro M h
  refine c_putrF dX2_init_79 fX2_54 rfl rfl h (by decide) sgC_28 rfl ?_
  clear h M
  intro M h
  refine j_aload_n 0 dX2_init_82 rfl ?_
  refine j_bipush 8 dX2_init_83 bp_8 ?_
  refine c_newI (kc := 22) (ks := 88) (N := 8) dX2_init_85 rfl rfl ac_int (by decide) (by decide) (by decide) h sgC_32 (by decide) ?_
  clear h M
  intro M h
  refine c_putrF dX2_init_87 fX2_58 rfl rfl h (by decide) sgC_28 rfl ?_
  clear h M
  intro M h
  refine j_iconst 0 dX2_init_90 ic_0 ?_
  refine j_istore_n (L' := [(1, .int 0), (0, .ref 28)]) dX2_init_91 (by decide) rfl ?_
  refine j_iload_n 0 dX2_init_92 rfl ?_
  refine j_aload_n 1 dX2_init_93 rfl ?_
  refine j_getr (q := 29) dX2_init_94 fX2_44 (h.sh (by decide) sgC_28) rfl (h.rd rfl) ?_
  refine j_alen dX2_init_97 (h.sh (by decide) sgC_29) (by decide) ?_
  refine j_icmp_geN (tgt := 120) 0 16 dX2_init_98 rfl (by decide) (by decide) (fun c => absurd c (by decide)) (fun c => ?_)
  refine j_aload_n 1 dX2_init_101 rfl ?_
  refine j_getr (q := 29) dX2_init_102 fX2_44 (h.sh (by decide) sgC_28) rfl (h.rd rfl) ?_
  refine j_iload_n 0 dX2_init_105 rfl ?_
  refine c_new (ci := 9) (kc := 21) (ks := 84) dX2_init_106 rfl nwX2_42 h sgC_33 (by decide) ?_
  clear h M
  intro M h
  refine j_dup dX2_init_109 rfl ?_
  refine j_callIN (kc := 21) (ks := 84) (a := 0) (b := 0) (d' := d) (As := []) (o := 33) dX2_init_110 kX2_61 rfl (by omega) rfl rfl rfl (Nat.le_of_ble_eq_true rfl) (Nat.le_of_ble_eq_true rfl) (T_i_X9 h (by decide) sgC_33) (kk_ev (fun M h => ?_))
  refine c_aast (t := 0) 0 dX2_init_113 h (by decide) sgC_29 (fun _ => rfl) (by decide) sgC_33 rfl (by decide) (by decide) ?_
  clear h M
  intro M h
  refine j_iinc 0 1 (L' := [(1, .int 1), (0, .ref 28)]) dX2_init_114 rfl (by decide) (by decide) rfl ?_
  refine j_goto (tgt := 92) dX2_init_117 rfl ?_
  refine j_iload_n 0 dX2_init_92 rfl ?_
  refine j_aload_n 1 dX2_init_93 rfl ?_
  refine j_getr (q := 29) dX2_init_94 fX2_44 (h.sh (by decide) sgC_28) rfl (h.rd rfl) ?_
  refine j_alen dX2_init_97 (h.sh (by decide) sgC_29) (by decide) ?_
  refine j_icmp_geN (tgt := 120) 1 16 dX2_init_98 rfl (by decide) (by decide) (fun c => absurd c (by decide)) (fun c => ?_)
  refine j_aload_n 1 dX2_init_101 rfl ?_
  refine j_getr (q := 29) dX2_init_102 fX2_44 (h.sh (by decide) sgC_28) rfl (h.rd rfl) ?_
  refine j_iload_n 0 dX2_init_105 rfl ?_
  refine c_new (ci := 9) (kc := 20) (ks := 80) dX2_init_106 rfl nwX2_42 h sgC_34 (by decide) ?_
  clear h M
  intro M h
  refine j_dup dX2_init_109 rfl ?_
  refine j_callIN (kc := 20) (ks := 80) (a := 0) (b := 0) (d' := d) (As := []) (o := 34) dX2_init_110 kX2_61 rfl (by omega) rfl rfl rfl (Nat.le_of_ble_eq_true rfl) (Nat.le_of_ble_eq_true rfl) (T_i_X9 h (by decide) sgC_34) (kk_ev (fun M h => ?_))
  refine c_aast (t := 0) 1 dX2_init_113 h (by decide) sgC_29 (fun _ => rfl) (by decide) sgC_34 rfl (by decide) (by decide) ?_
  clear h M
  intro M h
  refine j_iinc 0 2 (L' := [(1, .int 2), (0, .ref 28)]) dX2_init_114 rfl (by decide) (by decide) rfl ?_
  refine j_goto (tgt := 92) dX2_init_117 rfl ?_
  refine j_iload_n 0 dX2_init_92 rfl ?_
  refine j_aload_n 1 dX2_init_93 rfl ?_
  refine j_getr (q := 29) dX2_init_94 fX2_44 (h.sh (by decide) sgC_28) rfl (h.rd rfl) ?_
  refine j_alen dX2_init_97 (h.sh (by decide) sgC_29) (by decide) ?_
  refine j_icmp_geN (tgt := 120) 2 16 dX2_init_98 rfl (by decide) (by decide) (fun c => absurd c (by decide)) (fun c => ?_)
  refine j_aload_n 1 dX2_init_101 rfl ?_
  refine j_getr (q := 29) dX2_init_102 fX2_44 (h.sh (by decide) sgC_28) rfl (h.rd rfl) ?_
  refine j_iload_n 0 dX2_init_105 rfl ?_
  refine c_new (ci := 9) (kc := 19) (ks := 76) dX2_init_106 rfl nwX2_42 h sgC_35 (by decide) ?_
  clear h M
  intro M h
  refine j_dup dX2_init_109 rfl ?_
  refine j_callIN (kc := 19) (ks := 76) (a := 0) (b := 0) (d' := d) (As := []) (o := 35) dX2_init_110 kX2_61 rfl (by omega) rfl rfl rfl (Nat.le_of_ble_eq_true rfl) (Nat.le_of_ble_eq_true rfl) (T_i_X9 h (by decide) sgC_35) (kk_ev (fun M h => ?_))
  refine c_aast (t := 0) 2 dX2_init_113 h (by decide) sgC_29 (fun _ => rfl) (by decide) sgC_35 rfl (by decide) (by decide) ?_
  clear h M
  intro M h
  refine j_iinc 0 3 (L' := [(1, .int 3), (0, .ref 28)]) dX2_init_114 rfl (by decide) (by decide) rfl ?_
  refine j_goto (tgt := 92) dX2_init_117 rfl ?_
  refine j_iload_n 0 dX2_init_92 rfl ?_
  refine j_aload_n 1 dX2_init_93 rfl ?_
  refine j_getr (q := 29) dX2_init_94 fX2_44 (h.sh (by decide) sgC_28) rfl (h.rd rfl) ?_
  refine j_alen dX2_init_97 (h.sh (by decide) sgC_29) (by decide) ?_
  refine j_icmp_geN (tgt := 120) 3 16 dX2_init_98 rfl (by decide) (by decide) (fun c => absurd c (by decide)) (fun c => ?_)
  refine j_aload_n 1 dX2_init_101 rfl ?_
  refine j_getr (q := 29) dX2_init_102 fX2_44 (h.sh (by decide) sgC_28) rfl (h.rd rfl) ?_
  refine j_iload_n 0 dX2_init_105 rfl ?_
  refine c_new (ci := 9) (kc := 18) (ks := 72) dX2_init_106 rfl nwX2_42 h sgC_36 (by decide) ?_
  clear h M
  intro M h
  refine j_dup dX2_init_109 rfl ?_
  refine j_callIN (kc := 18) (ks := 72) (a := 0) (b := 0) (d' := d) (As := []) (o := 36) dX2_init_110 kX2_61 rfl (by omega) rfl rfl rfl (Nat.le_of_ble_eq_true rfl) (Nat.le_of_ble_eq_true rfl) (T_i_X9 h (by decide) sgC_36) (kk_ev (fun M h => ?_))
  refine c_aast (t := 0) 3 dX2_init_113 h (by decide) sgC_29 (fun _ => rfl) (by decide) sgC_36 rfl (by decide) (by decide) ?_
  clear h M
  intro M h
  refine j_iinc 0 4 (L' := [(1, .int 4), (0, .ref 28)]) dX2_init_114 rfl (by decide) (by decide) rfl ?_
  refine j_goto (tgt := 92) dX2_init_117 rfl ?_
  refine j_iload_n 0 dX2_init_92 rfl ?_
  refine j_aload_n 1 dX2_init_93 rfl ?_
  refine j_getr (q := 29) dX2_init_94 fX2_44 (h.sh (by decide) sgC_28) rfl (h.rd rfl) ?_
  refine j_alen dX2_init_97 (h.sh (by decide) sgC_29) (by decide) ?_
  refine j_icmp_geN (tgt := 120) 4 16 dX2_init_98 rfl (by decide) (by decide) (fun c => absurd c (by decide)) (fun c => ?_)
  refine j_aload_n 1 dX2_init_101 rfl ?_
  refine j_getr (q := 29) dX2_init_102 fX2_44 (h.sh (by decide) sgC_28) rfl (h.rd rfl) ?_
  refine j_iload_n 0 dX2_init_105 rfl ?_
  refine c_new (ci := 9) (kc := 17) (ks := 68) dX2_init_106 rfl nwX2_42 h sgC_37 (by decide) ?_
  clear h M
  intro M h
  refine j_dup dX2_init_109 rfl ?_
  refine j_callIN (kc := 17) (ks := 68) (a := 0) (b := 0) (d' := d) (As := []) (o := 37) dX2_init_110 kX2_61 rfl (by omega) rfl rfl rfl (Nat.le_of_ble_eq_true rfl) (Nat.le_of_ble_eq_true rfl) (T_i_X9 h (by decide) sgC_37) (kk_ev (fun M h => ?_))
  refine c_aast (t := 0) 4 dX2_init_113 h (by decide) sgC_29 (fun _ => rfl) (by decide) sgC_37 rfl (by decide) (by decide) ?_
  clear h M
  intro M h
  refine j_iinc 0 5 (L' := [(1, .int 5), (0, .ref 28)]) dX2_init_114 rfl (by decide) (by decide) rfl ?_
  refine j_goto (tgt := 92) dX2_init_117 rfl ?_
  refine j_iload_n 0 dX2_init_92 rfl ?_
  refine j_aload_n 1 dX2_init_93 rfl ?_
  refine j_getr (q := 29) dX2_init_94 fX2_44 (h.sh (by decide) sgC_28) rfl (h.rd rfl) ?_
  refine j_alen dX2_init_97 (h.sh (by decide) sgC_29) (by decide) ?_
  refine j_icmp_geN (tgt := 120) 5 16 dX2_init_98 rfl (by decide) (by decide) (fun c => absurd c (by decide)) (fun c => ?_)
  refine j_aload_n 1 dX2_init_101 rfl ?_
  refine j_getr (q := 29) dX2_init_102 fX2_44 (h.sh (by decide) sgC_28) rfl (h.rd rfl) ?_
  refine j_iload_n 0 dX2_init_105 rfl ?_
  refine c_new (ci := 9) (kc := 16) (ks := 64) dX2_init_106 rfl nwX2_42 h sgC_38 (by decide) ?_
  clear h M
  intro M h
  refine j_dup dX2_init_109 rfl ?_
  refine j_callIN (kc := 16) (ks := 64) (a := 0) (b := 0) (d' := d) (As := []) (o := 38) dX2_init_110 kX2_61 rfl (by omega) rfl rfl rfl (Nat.le_of_ble_eq_true rfl) (Nat.le_of_ble_eq_true rfl) (T_i_X9 h (by decide) sgC_38) (kk_ev (fun M h => ?_))
  refine c_aast (t := 0) 5 dX2_init_113 h (by decide) sgC_29 (fun _ => rfl) (by decide) sgC_38 rfl (by decide) (by decide) ?_
  clear h M
  intro M h
  refine j_iinc 0 6 (L' := [(1, .int 6), (0, .ref 28)]) dX2_init_114 rfl (by decide) (by decide) rfl ?_
  refine j_goto (tgt := 92) dX2_init_117 rfl ?_
  refine j_iload_n 0 dX2_init_92 rfl ?_
  refine j_aload_n 1 dX2_init_93 rfl ?_
  refine j_getr (q := 29) dX2_init_94 fX2_44 (h.sh (by decide) sgC_28) rfl (h.rd rfl) ?_
  refine j_alen dX2_init_97 (h.sh (by decide) sgC_29) (by decide) ?_
  refine j_icmp_geN (tgt := 120) 6 16 dX2_init_98 rfl (by decide) (by decide) (fun c => absurd c (by decide)) (fun c => ?_)
  refine j_aload_n 1 dX2_init_101 rfl ?_
  refine j_getr (q := 29) dX2_init_102 fX2_44 (h.sh (by decide) sgC_28) rfl (h.rd rfl) ?_
  refine j_iload_n 0 dX2_init_105 rfl ?_
  refine c_new (ci := 9) (kc := 15) (ks := 60) dX2_init_106 rfl nwX2_42 h sgC_39 (by decide) ?_
  clear h M
  intro M h
  refine j_dup dX2_init_109 rfl ?_
  refine j_callIN (kc := 15) (ks := 60) (a := 0) (b := 0) (d' := d) (As := []) (o := 39) dX2_init_110 kX2_61 rfl (by omega) rfl rfl rfl (Nat.le_of_ble_eq_true rfl) (Nat.le_of_ble_eq_true rfl) (T_i_X9 h (by decide) sgC_39) (kk_ev (fun M h => ?_))
  refine c_aast (t := 0) 6 dX2_init_113 h (by decide) sgC_29 (fun _ => rfl) (by decide) sgC_39 rfl (by decide) (by decide) ?_
  clear h M
  intro M h
  refine j_iinc 0 7 (L' := [(1, .int 7), (0, .ref 28)]) dX2_init_114 rfl (by decide) (by decide) rfl ?_
  refine j_goto (tgt := 92) dX2_init_117 rfl ?_
  refine j_iload_n 0 dX2_init_92 rfl ?_
  refine j_aload_n 1 dX2_init_93 rfl ?_
  refine j_getr (q := 29) dX2_init_94 fX2_44 (h.sh (by decide) sgC_28) rfl (h.rd rfl) ?_
  refine j_alen dX2_init_97 (h.sh (by decide) sgC_29) (by decide) ?_
  refine j_icmp_geN (tgt := 120) 7 16 dX2_init_98 rfl (by decide) (by decide) (fun c => absurd c (by decide)) (fun c => ?_)
  refine j_aload_n 1 dX2_init_101 rfl ?_
  refine j_getr (q := 29) dX2_init_102 fX2_44 (h.sh (by decide) sgC_28) rfl (h.rd rfl) ?_
  refine j_iload_n 0 dX2_init_105 rfl ?_
  refine c_new (ci := 9) (kc := 14) (ks := 56) dX2_init_106 rfl nwX2_42 h sgC_40 (by decide) ?_
  clear h M
  intro M h
  refine j_dup dX2_init_109 rfl ?_
  refine j_callIN (kc := 14) (ks := 56) (a := 0) (b := 0) (d' := d) (As := []) (o := 40) dX2_init_110 kX2_61 rfl (by omega) rfl rfl rfl (Nat.le_of_ble_eq_true rfl) (Nat.le_of_ble_eq_true rfl) (T_i_X9 h (by decide) sgC_40) (kk_ev (fun M h => ?_))
  refine c_aast (t := 0) 7 dX2_init_113 h (by decide) sgC_29 (fun _ => rfl) (by decide) sgC_40 rfl (by decide) (by decide) ?_
  clear h M
  intro M h
  refine j_iinc 0 8 (L' := [(1, .int 8), (0, .ref 28)]) dX2_init_114 rfl (by decide) (by decide) rfl ?_
  refine j_goto (tgt := 92) dX2_init_117 rfl ?_
  refine j_iload_n 0 dX2_init_92 rfl ?_
  refine j_aload_n 1 dX2_init_93 rfl ?_
  refine j_getr (q := 29) dX2_init_94 fX2_44 (h.sh (by decide) sgC_28) rfl (h.rd rfl) ?_
  refine j_alen dX2_init_97 (h.sh (by decide) sgC_29) (by decide) ?_
  refine j_icmp_geN (tgt := 120) 8 16 dX2_init_98 rfl (by decide) (by decide) (fun c => absurd c (by decide)) (fun c => ?_)
  refine j_aload_n 1 dX2_init_101 rfl ?_
  refine j_getr (q := 29) dX2_init_102 fX2_44 (h.sh (by decide) sgC_28) rfl (h.rd rfl) ?_
  refine j_iload_n 0 dX2_init_105 rfl ?_
  refine c_new (ci := 9) (kc := 13) (ks := 52) dX2_init_106 rfl nwX2_42 h sgC_41 (by decide) ?_
  clear h M
  intro M h
  refine j_dup dX2_init_109 rfl ?_
  refine j_callIN (kc := 13) (ks := 52) (a := 0) (b := 0) (d' := d) (As := []) (o := 41) dX2_init_110 kX2_61 rfl (by omega) rfl rfl rfl (Nat.le_of_ble_eq_true rfl) (Nat.le_of_ble_eq_true rfl) (T_i_X9 h (by decide) sgC_41) (kk_ev (fun M h => ?_))
  refine c_aast (t := 0) 8 dX2_init_113 h (by decide) sgC_29 (fun _ => rfl) (by decide) sgC_41 rfl (by decide) (by decide) ?_
  clear h M
  intro M h
  refine j_iinc 0 9 (L' := [(1, .int 9), (0, .ref 28)]) dX2_init_114 rfl (by decide) (by decide) rfl ?_
  refine j_goto (tgt := 92) dX2_init_117 rfl ?_
  refine j_iload_n 0 dX2_init_92 rfl ?_
  refine j_aload_n 1 dX2_init_93 rfl ?_
  refine j_getr (q := 29) dX2_init_94 fX2_44 (h.sh (by decide) sgC_28) rfl (h.rd rfl) ?_
  refine j_alen dX2_init_97 (h.sh (by decide) sgC_29) (by decide) ?_
  refine j_icmp_geN (tgt := 120) 9 16 dX2_init_98 rfl (by decide) (by decide) (fun c => absurd c (by decide)) (fun c => ?_)
  refine j_aload_n 1 dX2_init_101 rfl ?_
  refine j_getr (q := 29) dX2_init_102 fX2_44 (h.sh (by decide) sgC_28) rfl (h.rd rfl) ?_
  refine j_iload_n 0 dX2_init_105 rfl ?_
  refine c_new (ci := 9) (kc := 12) (ks := 48) dX2_init_106 rfl nwX2_42 h sgC_42 (by decide) ?_
  clear h M
  intro M h
  refine j_dup dX2_init_109 rfl ?_
  refine j_callIN (kc := 12) (ks := 48) (a := 0) (b := 0) (d' := d) (As := []) (o := 42) dX2_init_110 kX2_61 rfl (by omega) rfl rfl rfl (Nat.le_of_ble_eq_true rfl) (Nat.le_of_ble_eq_true rfl) (T_i_X9 h (by decide) sgC_42) (kk_ev (fun M h => ?_))
  refine c_aast (t := 0) 9 dX2_init_113 h (by decide) sgC_29 (fun _ => rfl) (by decide) sgC_42 rfl (by decide) (by decide) ?_
  clear h M
  intro M h
  refine j_iinc 0 10 (L' := [(1, .int 10), (0, .ref 28)]) dX2_init_114 rfl (by decide) (by decide) rfl ?_
  refine j_goto (tgt := 92) dX2_init_117 rfl ?_
  refine j_iload_n 0 dX2_init_92 rfl ?_
  refine j_aload_n 1 dX2_init_93 rfl ?_
  refine j_getr (q := 29) dX2_init_94 fX2_44 (h.sh (by decide) sgC_28) rfl (h.rd rfl) ?_
  refine j_alen dX2_init_97 (h.sh (by decide) sgC_29) (by decide) ?_
  refine j_icmp_geN (tgt := 120) 10 16 dX2_init_98 rfl (by decide) (by decide) (fun c => absurd c (by decide)) (fun c => ?_)
  refine j_aload_n 1 dX2_init_101 rfl ?_
  refine j_getr (q := 29) dX2_init_102 fX2_44 (h.sh (by decide) sgC_28) rfl (h.rd rfl) ?_
  refine j_iload_n 0 dX2_init_105 rfl ?_
  refine c_new (ci := 9) (kc := 11) (ks := 44) dX2_init_106 rfl nwX2_42 h sgC_43 (by decide) ?_
  clear h M
  intro M h
  refine j_dup dX2_init_109 rfl ?_
  refine j_callIN (kc := 11) (ks := 44) (a := 0) (b := 0) (d' := d) (As := []) (o := 43) dX2_init_110 kX2_61 rfl (by omega) rfl rfl rfl (Nat.le_of_ble_eq_true rfl) (Nat.le_of_ble_eq_true rfl) (T_i_X9 h (by decide) sgC_43) (kk_ev (fun M h => ?_))
  refine c_aast (t := 0) 10 dX2_init_113 h (by decide) sgC_29 (fun _ => rfl) (by decide) sgC_43 rfl (by decide) (by decide) ?_
  clear h M
  intro M h
  refine j_iinc 0 11 (L' := [(1, .int 11), (0, .ref 28)]) dX2_init_114 rfl (by decide) (by decide) rfl ?_
  refine j_goto (tgt := 92) dX2_init_117 rfl ?_
  refine j_iload_n 0 dX2_init_92 rfl ?_
  refine j_aload_n 1 dX2_init_93 rfl ?_
  refine j_getr (q := 29) dX2_init_94 fX2_44 (h.sh (by decide) sgC_28) rfl (h.rd rfl) ?_
  refine j_alen dX2_init_97 (h.sh (by decide) sgC_29) (by decide) ?_
  refine j_icmp_geN (tgt := 120) 11 16 dX2_init_98 rfl (by decide) (by decide) (fun c => absurd c (by decide)) (fun c => ?_)
  refine j_aload_n 1 dX2_init_101 rfl ?_
  refine j_getr (q := 29) dX2_init_102 fX2_44 (h.sh (by decide) sgC_28) rfl (h.rd rfl) ?_
  refine j_iload_n 0 dX2_init_105 rfl ?_
  refine c_new (ci := 9) (kc := 10) (ks := 40) dX2_init_106 rfl nwX2_42 h sgC_44 (by decide) ?_
  clear h M
  intro M h
  refine j_dup dX2_init_109 rfl ?_
  refine j_callIN (kc := 10) (ks := 40) (a := 0) (b := 0) (d' := d) (As := []) (o := 44) dX2_init_110 kX2_61 rfl (by omega) rfl rfl rfl (Nat.le_of_ble_eq_true rfl) (Nat.le_of_ble_eq_true rfl) (T_i_X9 h (by decide) sgC_44) (kk_ev (fun M h => ?_))
  refine c_aast (t := 0) 11 dX2_init_113 h (by decide) sgC_29 (fun _ => rfl) (by decide) sgC_44 rfl (by decide) (by decide) ?_
  clear h M
  intro M h
  refine j_iinc 0 12 (L' := [(1, .int 12), (0, .ref 28)]) dX2_init_114 rfl (by decide) (by decide) rfl ?_
  refine j_goto (tgt := 92) dX2_init_117 rfl ?_
  refine j_iload_n 0 dX2_init_92 rfl ?_
  refine j_aload_n 1 dX2_init_93 rfl ?_
  refine j_getr (q := 29) dX2_init_94 fX2_44 (h.sh (by decide) sgC_28) rfl (h.rd rfl) ?_
  refine j_alen dX2_init_97 (h.sh (by decide) sgC_29) (by decide) ?_
  refine j_icmp_geN (tgt := 120) 12 16 dX2_init_98 rfl (by decide) (by decide) (fun c => absurd c (by decide)) (fun c => ?_)
  refine j_aload_n 1 dX2_init_101 rfl ?_
  refine j_getr (q := 29) dX2_init_102 fX2_44 (h.sh (by decide) sgC_28) rfl (h.rd rfl) ?_
  refine j_iload_n 0 dX2_init_105 rfl ?_
  refine c_new (ci := 9) (kc := 9) (ks := 36) dX2_init_106 rfl nwX2_42 h sgC_45 (by decide) ?_
  clear h M
  intro M h
  refine j_dup dX2_init_109 rfl ?_
  refine j_callIN (kc := 9) (ks := 36) (a := 0) (b := 0) (d' := d) (As := []) (o := 45) dX2_init_110 kX2_61 rfl (by omega) rfl rfl rfl (Nat.le_of_ble_eq_true rfl) (Nat.le_of_ble_eq_true rfl) (T_i_X9 h (by decide) sgC_45) (kk_ev (fun M h => ?_))
  refine c_aast (t := 0) 12 dX2_init_113 h (by decide) sgC_29 (fun _ => rfl) (by decide) sgC_45 rfl (by decide) (by decide) ?_
  clear h M
  intro M h
  refine j_iinc 0 13 (L' := [(1, .int 13), (0, .ref 28)]) dX2_init_114 rfl (by decide) (by decide) rfl ?_
  refine j_goto (tgt := 92) dX2_init_117 rfl ?_
  refine j_iload_n 0 dX2_init_92 rfl ?_
  refine j_aload_n 1 dX2_init_93 rfl ?_
  refine j_getr (q := 29) dX2_init_94 fX2_44 (h.sh (by decide) sgC_28) rfl (h.rd rfl) ?_
  refine j_alen dX2_init_97 (h.sh (by decide) sgC_29) (by decide) ?_
  refine j_icmp_geN (tgt := 120) 13 16 dX2_init_98 rfl (by decide) (by decide) (fun c => absurd c (by decide)) (fun c => ?_)
  refine j_aload_n 1 dX2_init_101 rfl ?_
  refine j_getr (q := 29) dX2_init_102 fX2_44 (h.sh (by decide) sgC_28) rfl (h.rd rfl) ?_
  refine j_iload_n 0 dX2_init_105 rfl ?_
  refine c_new (ci := 9) (kc := 8) (ks := 32) dX2_init_106 rfl nwX2_42 h sgC_46 (by decide) ?_
  clear h M
  intro M h
  refine j_dup dX2_init_109 rfl ?_
  refine j_callIN (kc := 8) (ks := 32) (a := 0) (b := 0) (d' := d) (As := []) (o := 46) dX2_init_110 kX2_61 rfl (by omega) rfl rfl rfl (Nat.le_of_ble_eq_true rfl) (Nat.le_of_ble_eq_true rfl) (T_i_X9 h (by decide) sgC_46) (kk_ev (fun M h => ?_))
  refine c_aast (t := 0) 13 dX2_init_113 h (by decide) sgC_29 (fun _ => rfl) (by decide) sgC_46 rfl (by decide) (by decide) ?_
  clear h M
  intro M h
  refine j_iinc 0 14 (L' := [(1, .int 14), (0, .ref 28)]) dX2_init_114 rfl (by decide) (by decide) rfl ?_
  refine j_goto (tgt := 92) dX2_init_117 rfl ?_
  refine j_iload_n 0 dX2_init_92 rfl ?_
  refine j_aload_n 1 dX2_init_93 rfl ?_
  refine j_getr (q := 29) dX2_init_94 fX2_44 (h.sh (by decide) sgC_28) rfl (h.rd rfl) ?_
  refine j_alen dX2_init_97 (h.sh (by decide) sgC_29) (by decide) ?_
  refine j_icmp_geN (tgt := 120) 14 16 dX2_init_98 rfl (by decide) (by decide) (fun c => absurd c (by decide)) (fun c => ?_)
  refine j_aload_n 1 dX2_init_101 rfl ?_
  refine j_getr (q := 29) dX2_init_102 fX2_44 (h.sh (by decide) sgC_28) rfl (h.rd rfl) ?_
  refine j_iload_n 0 dX2_init_105 rfl ?_
  refine c_new (ci := 9) (kc := 7) (ks := 28) dX2_init_106 rfl nwX2_42 h sgC_47 (by decide) ?_
  clear h M
  intro M h
  refine j_dup dX2_init_109 rfl ?_
  refine j_callIN (kc := 7) (ks := 28) (a := 0) (b := 0) (d' := d) (As := []) (o := 47) dX2_init_110 kX2_61 rfl (by omega) rfl rfl rfl (Nat.le_of_ble_eq_true rfl) (Nat.le_of_ble_eq_true rfl) (T_i_X9 h (by decide) sgC_47) (kk_ev (fun M h => ?_))
  refine c_aast (t := 0) 14 dX2_init_113 h (by decide) sgC_29 (fun _ => rfl) (by decide) sgC_47 rfl (by decide) (by decide) ?_
  clear h M
  intro M h
  refine j_iinc 0 15 (L' := [(1, .int 15), (0, .ref 28)]) dX2_init_114 rfl (by decide) (by decide) rfl ?_
  refine j_goto (tgt := 92) dX2_init_117 rfl ?_
  refine j_iload_n 0 dX2_init_92 rfl ?_
  refine j_aload_n 1 dX2_init_93 rfl ?_
  refine j_getr (q := 29) dX2_init_94 fX2_44 (h.sh (by decide) sgC_28) rfl (h.rd rfl) ?_
  refine j_alen dX2_init_97 (h.sh (by decide) sgC_29) (by decide) ?_
  refine j_icmp_geN (tgt := 120) 15 16 dX2_init_98 rfl (by decide) (by decide) (fun c => absurd c (by decide)) (fun c => ?_)
  refine j_aload_n 1 dX2_init_101 rfl ?_
  refine j_getr (q := 29) dX2_init_102 fX2_44 (h.sh (by decide) sgC_28) rfl (h.rd rfl) ?_
  refine j_iload_n 0 dX2_init_105 rfl ?_
  refine c_new (ci := 9) (kc := 6) (ks := 24) dX2_init_106 rfl nwX2_42 h sgC_48 (by decide) ?_
  clear h M
  intro M h
  refine j_dup dX2_init_109 rfl ?_
  refine j_callIN (kc := 6) (ks := 24) (a := 0) (b := 0) (d' := d) (As := []) (o := 48) dX2_init_110 kX2_61 rfl (by omega) rfl rfl rfl (Nat.le_of_ble_eq_true rfl) (Nat.le_of_ble_eq_true rfl) (T_i_X9 h (by decide) sgC_48) (kk_ev (fun M h => ?_))
  refine c_aast (t := 0) 15 dX2_init_113 h (by decide) sgC_29 (fun _ => rfl) (by decide) sgC_48 rfl (by decide) (by decide) ?_
  clear h M
  intro M h
  refine j_iinc 0 16 (L' := [(1, .int 16), (0, .ref 28)]) dX2_init_114 rfl (by decide) (by decide) rfl ?_
  refine j_goto (tgt := 92) dX2_init_117 rfl ?_
  refine j_iload_n 0 dX2_init_92 rfl ?_
  refine j_aload_n 1 dX2_init_93 rfl ?_
  refine j_getr (q := 29) dX2_init_94 fX2_44 (h.sh (by decide) sgC_28) rfl (h.rd rfl) ?_
  refine j_alen dX2_init_97 (h.sh (by decide) sgC_29) (by decide) ?_
  refine j_icmp_geN (tgt := 120) 16 16 dX2_init_98 rfl (by decide) (by decide) (fun c => ?_) (fun c => absurd c (by decide))
  refine j_iconst 0 dX2_init_120 ic_0 ?_
  refine j_istore_n (L' := [(1, .int 0), (0, .ref 28)]) dX2_init_121 (by decide) rfl ?_
  refine j_iload_n 0 dX2_init_122 rfl ?_
  refine j_aload_n 1 dX2_init_123 rfl ?_
  refine j_getr (q := 30) dX2_init_124 fX2_50 (h.sh (by decide) sgC_28) rfl (h.rd rfl) ?_
  refine j_alen dX2_init_127 (h.sh (by decide) sgC_30) (by decide) ?_
  refine j_icmp_geN (tgt := 150) 0 6 dX2_init_128 rfl (by decide) (by decide) (fun c => absurd c (by decide)) (fun c => ?_)
  refine j_aload_n 1 dX2_init_131 rfl ?_
  refine j_getr (q := 30) dX2_init_132 fX2_50 (h.sh (by decide) sgC_28) rfl (h.rd rfl) ?_
  refine j_iload_n 0 dX2_init_135 rfl ?_
  refine c_new (ci := 1) (kc := 5) (ks := 20) dX2_init_136 rfl nwX2_48 h sgC_49 (by decide) ?_
  clear h M
  intro M h
  refine j_dup dX2_init_139 rfl ?_
  refine j_callIN (kc := 5) (ks := 20) (a := 0) (b := 0) (d' := d) (As := []) (o := 49) dX2_init_140 kX2_62 rfl (by omega) rfl rfl rfl (Nat.le_of_ble_eq_true rfl) (Nat.le_of_ble_eq_true rfl) (T_i_X1 h (by decide) sgC_49) (kk_ev (fun M h => ?_))
  refine c_aast (t := 1) 0 dX2_init_143 h (by decide) sgC_30 (fun _ => rfl) (by decide) sgC_49 rfl (by decide) (by decide) ?_
  clear h M
  intro M h
  refine j_iinc 0 1 (L' := [(1, .int 1), (0, .ref 28)]) dX2_init_144 rfl (by decide) (by decide) rfl ?_
  refine j_goto (tgt := 122) dX2_init_147 rfl ?_
  refine j_iload_n 0 dX2_init_122 rfl ?_
  refine j_aload_n 1 dX2_init_123 rfl ?_
  refine j_getr (q := 30) dX2_init_124 fX2_50 (h.sh (by decide) sgC_28) rfl (h.rd rfl) ?_
  refine j_alen dX2_init_127 (h.sh (by decide) sgC_30) (by decide) ?_
  refine j_icmp_geN (tgt := 150) 1 6 dX2_init_128 rfl (by decide) (by decide) (fun c => absurd c (by decide)) (fun c => ?_)
  refine j_aload_n 1 dX2_init_131 rfl ?_
  refine j_getr (q := 30) dX2_init_132 fX2_50 (h.sh (by decide) sgC_28) rfl (h.rd rfl) ?_
  refine j_iload_n 0 dX2_init_135 rfl ?_
  refine c_new (ci := 1) (kc := 4) (ks := 16) dX2_init_136 rfl nwX2_48 h sgC_50 (by decide) ?_
  clear h M
  intro M h
  refine j_dup dX2_init_139 rfl ?_
  refine j_callIN (kc := 4) (ks := 16) (a := 0) (b := 0) (d' := d) (As := []) (o := 50) dX2_init_140 kX2_62 rfl (by omega) rfl rfl rfl (Nat.le_of_ble_eq_true rfl) (Nat.le_of_ble_eq_true rfl) (T_i_X1 h (by decide) sgC_50) (kk_ev (fun M h => ?_))
  refine c_aast (t := 1) 1 dX2_init_143 h (by decide) sgC_30 (fun _ => rfl) (by decide) sgC_50 rfl (by decide) (by decide) ?_
  clear h M
  intro M h
  refine j_iinc 0 2 (L' := [(1, .int 2), (0, .ref 28)]) dX2_init_144 rfl (by decide) (by decide) rfl ?_
  refine j_goto (tgt := 122) dX2_init_147 rfl ?_
  refine j_iload_n 0 dX2_init_122 rfl ?_
  refine j_aload_n 1 dX2_init_123 rfl ?_
  refine j_getr (q := 30) dX2_init_124 fX2_50 (h.sh (by decide) sgC_28) rfl (h.rd rfl) ?_
  refine j_alen dX2_init_127 (h.sh (by decide) sgC_30) (by decide) ?_
  refine j_icmp_geN (tgt := 150) 2 6 dX2_init_128 rfl (by decide) (by decide) (fun c => absurd c (by decide)) (fun c => ?_)
  refine j_aload_n 1 dX2_init_131 rfl ?_
  refine j_getr (q := 30) dX2_init_132 fX2_50 (h.sh (by decide) sgC_28) rfl (h.rd rfl) ?_
  refine j_iload_n 0 dX2_init_135 rfl ?_
  refine c_new (ci := 1) (kc := 3) (ks := 12) dX2_init_136 rfl nwX2_48 h sgC_51 (by decide) ?_
  clear h M
  intro M h
  refine j_dup dX2_init_139 rfl ?_
  refine j_callIN (kc := 3) (ks := 12) (a := 0) (b := 0) (d' := d) (As := []) (o := 51) dX2_init_140 kX2_62 rfl (by omega) rfl rfl rfl (Nat.le_of_ble_eq_true rfl) (Nat.le_of_ble_eq_true rfl) (T_i_X1 h (by decide) sgC_51) (kk_ev (fun M h => ?_))
  refine c_aast (t := 1) 2 dX2_init_143 h (by decide) sgC_30 (fun _ => rfl) (by decide) sgC_51 rfl (by decide) (by decide) ?_
  clear h M
  intro M h
  refine j_iinc 0 3 (L' := [(1, .int 3), (0, .ref 28)]) dX2_init_144 rfl (by decide) (by decide) rfl ?_
  refine j_goto (tgt := 122) dX2_init_147 rfl ?_
  refine j_iload_n 0 dX2_init_122 rfl ?_
  refine j_aload_n 1 dX2_init_123 rfl ?_
  refine j_getr (q := 30) dX2_init_124 fX2_50 (h.sh (by decide) sgC_28) rfl (h.rd rfl) ?_
  refine j_alen dX2_init_127 (h.sh (by decide) sgC_30) (by decide) ?_
  refine j_icmp_geN (tgt := 150) 3 6 dX2_init_128 rfl (by decide) (by decide) (fun c => absurd c (by decide)) (fun c => ?_)
  refine j_aload_n 1 dX2_init_131 rfl ?_
  refine j_getr (q := 30) dX2_init_132 fX2_50 (h.sh (by decide) sgC_28) rfl (h.rd rfl) ?_
  refine j_iload_n 0 dX2_init_135 rfl ?_
  refine c_new (ci := 1) (kc := 2) (ks := 8) dX2_init_136 rfl nwX2_48 h sgC_52 (by decide) ?_
  clear h M
  intro M h
  refine j_dup dX2_init_139 rfl ?_
  refine j_callIN (kc := 2) (ks := 8) (a := 0) (b := 0) (d' := d) (As := []) (o := 52) dX2_init_140 kX2_62 rfl (by omega) rfl rfl rfl (Nat.le_of_ble_eq_true rfl) (Nat.le_of_ble_eq_true rfl) (T_i_X1 h (by decide) sgC_52) (kk_ev (fun M h => ?_))
  refine c_aast (t := 1) 3 dX2_init_143 h (by decide) sgC_30 (fun _ => rfl) (by decide) sgC_52 rfl (by decide) (by decide) ?_
  clear h M
  intro M h
  refine j_iinc 0 4 (L' := [(1, .int 4), (0, .ref 28)]) dX2_init_144 rfl (by decide) (by decide) rfl ?_
  refine j_goto (tgt := 122) dX2_init_147 rfl ?_
  refine j_iload_n 0 dX2_init_122 rfl ?_
  refine j_aload_n 1 dX2_init_123 rfl ?_
  refine j_getr (q := 30) dX2_init_124 fX2_50 (h.sh (by decide) sgC_28) rfl (h.rd rfl) ?_
  refine j_alen dX2_init_127 (h.sh (by decide) sgC_30) (by decide) ?_
  refine j_icmp_geN (tgt := 150) 4 6 dX2_init_128 rfl (by decide) (by decide) (fun c => absurd c (by decide)) (fun c => ?_)
  refine j_aload_n 1 dX2_init_131 rfl ?_
  refine j_getr (q := 30) dX2_init_132 fX2_50 (h.sh (by decide) sgC_28) rfl (h.rd rfl) ?_
  refine j_iload_n 0 dX2_init_135 rfl ?_
  refine c_new (ci := 1) (kc := 1) (ks := 4) dX2_init_136 rfl nwX2_48 h sgC_53 (by decide) ?_
  clear h M
  intro M h
  refine j_dup dX2_init_139 rfl ?_
  refine j_callIN (kc := 1) (ks := 4) (a := 0) (b := 0) (d' := d) (As := []) (o := 53) dX2_init_140 kX2_62 rfl (by omega) rfl rfl rfl (Nat.le_of_ble_eq_true rfl) (Nat.le_of_ble_eq_true rfl) (T_i_X1 h (by decide) sgC_53) (kk_ev (fun M h => ?_))
  refine c_aast (t := 1) 4 dX2_init_143 h (by decide) sgC_30 (fun _ => rfl) (by decide) sgC_53 rfl (by decide) (by decide) ?_
  clear h M
  intro M h
  refine j_iinc 0 5 (L' := [(1, .int 5), (0, .ref 28)]) dX2_init_144 rfl (by decide) (by decide) rfl ?_
  refine j_goto (tgt := 122) dX2_init_147 rfl ?_
  refine j_iload_n 0 dX2_init_122 rfl ?_
  refine j_aload_n 1 dX2_init_123 rfl ?_
  refine j_getr (q := 30) dX2_init_124 fX2_50 (h.sh (by decide) sgC_28) rfl (h.rd rfl) ?_
  refine j_alen dX2_init_127 (h.sh (by decide) sgC_30) (by decide) ?_
  refine j_icmp_geN (tgt := 150) 5 6 dX2_init_128 rfl (by decide) (by decide) (fun c => absurd c (by decide)) (fun c => ?_)
  refine j_aload_n 1 dX2_init_131 rfl ?_
  refine j_getr (q := 30) dX2_init_132 fX2_50 (h.sh (by decide) sgC_28) rfl (h.rd rfl) ?_
  refine j_iload_n 0 dX2_init_135 rfl ?_
  refine c_new (ci := 1) (kc := 0) (ks := 0) dX2_init_136 rfl nwX2_48 h sgC_54 (by decide) ?_
  clear h M
  intro M h
  refine j_dup dX2_init_139 rfl ?_
  refine j_callIN (kc := 0) (ks := 0) (a := 0) (b := 0) (d' := d) (As := []) (o := 54) dX2_init_140 kX2_62 rfl (by omega) rfl rfl rfl (Nat.le_of_ble_eq_true rfl) (Nat.le_of_ble_eq_true rfl) (T_i_X1 h (by decide) sgC_54) (kk_ev (fun M h => ?_))
  refine c_aast (t := 1) 5 dX2_init_143 h (by decide) sgC_30 (fun _ => rfl) (by decide) sgC_54 rfl (by decide) (by decide) ?_
  clear h M
  intro M h
  refine j_iinc 0 6 (L' := [(1, .int 6), (0, .ref 28)]) dX2_init_144 rfl (by decide) (by decide) rfl ?_
  refine j_goto (tgt := 122) dX2_init_147 rfl ?_
  refine j_iload_n 0 dX2_init_122 rfl ?_
  refine j_aload_n 1 dX2_init_123 rfl ?_
  refine j_getr (q := 30) dX2_init_124 fX2_50 (h.sh (by decide) sgC_28) rfl (h.rd rfl) ?_
  refine j_alen dX2_init_127 (h.sh (by decide) sgC_30) (by decide) ?_
  refine j_icmp_geN (tgt := 150) 6 6 dX2_init_128 rfl (by decide) (by decide) (fun c => ?_) (fun c => absurd c (by decide))
  refine j_vret dX2_init_150 rfl ?_
  exact hQ _ _ ⟨rfl, h⟩
set_option maxRecDepth 20000 in
set_option maxHeartbeats 4000000 in
theorem T_i_X2_55 {d : Nat} {W : List (Nat × Nat × Nat)} {V : List (Nat × Nat × Int32)} {M : jk_M} (h : SL jGC 56 W V M) : J Fr_X2_init (d + 1) 26 126 0 [(0, .ref 55)] [] M (jk_ex none (fun M1 => SL jGC 82 ((57, 5, 81) :: (57, 4, 80) :: (57, 3, 79) :: (57, 2, 78) :: (57, 1, 77) :: (57, 0, 76) :: (56, 15, 75) :: (56, 14, 74) :: (56, 13, 73) :: (56, 12, 72) :: (56, 11, 71) :: (56, 10, 70) :: (56, 9, 69) :: (56, 8, 68) :: (56, 7, 67) :: (56, 6, 66) :: (56, 5, 65) :: (56, 4, 64) :: (56, 3, 63) :: (56, 2, 62) :: (56, 1, 61) :: (56, 0, 60) :: (55, 13, 59) :: (55, 12, 58) :: (55, 11, 57) :: (55, 10, 56) :: W) ((81, 3, 0) :: (81, 2, 1) :: (81, 1, 1) :: (81, 0, 0) :: (80, 3, 0) :: (80, 2, 1) :: (80, 1, 1) :: (80, 0, 0) :: (79, 3, 0) :: (79, 2, 1) :: (79, 1, 1) :: (79, 0, 0) :: (78, 3, 0) :: (78, 2, 1) :: (78, 1, 1) :: (78, 0, 0) :: (77, 3, 0) :: (77, 2, 1) :: (77, 1, 1) :: (77, 0, 0) :: (76, 3, 0) :: (76, 2, 1) :: (76, 1, 1) :: (76, 0, 0) :: (75, 3, 1) :: (75, 2, 0) :: (75, 1, 0) :: (75, 0, 0) :: (74, 3, 1) :: (74, 2, 0) :: (74, 1, 0) :: (74, 0, 0) :: (73, 3, 1) :: (73, 2, 0) :: (73, 1, 0) :: (73, 0, 0) :: (72, 3, 1) :: (72, 2, 0) :: (72, 1, 0) :: (72, 0, 0) :: (71, 3, 1) :: (71, 2, 0) :: (71, 1, 0) :: (71, 0, 0) :: (70, 3, 1) :: (70, 2, 0) :: (70, 1, 0) :: (70, 0, 0) :: (69, 3, 1) :: (69, 2, 0) :: (69, 1, 0) :: (69, 0, 0) :: (68, 3, 1) :: (68, 2, 0) :: (68, 1, 0) :: (68, 0, 0) :: (67, 3, 1) :: (67, 2, 0) :: (67, 1, 0) :: (67, 0, 0) :: (66, 3, 1) :: (66, 2, 0) :: (66, 1, 0) :: (66, 0, 0) :: (65, 3, 1) :: (65, 2, 0) :: (65, 1, 0) :: (65, 0, 0) :: (64, 3, 1) :: (64, 2, 0) :: (64, 1, 0) :: (64, 0, 0) :: (63, 3, 1) :: (63, 2, 0) :: (63, 1, 0) :: (63, 0, 0) :: (62, 3, 1) :: (62, 2, 0) :: (62, 1, 0) :: (62, 0, 0) :: (61, 3, 1) :: (61, 2, 0) :: (61, 1, 0) :: (61, 0, 0) :: (60, 3, 1) :: (60, 2, 0) :: (60, 1, 0) :: (60, 0, 0) :: (55, 9, 0) :: (55, 8, 0) :: (55, 7, 0) :: (55, 6, (-1)) :: (55, 5, 0) :: (55, 4, 1) :: (55, 3, 0) :: (55, 2, 6) :: (55, 1, 50) :: (55, 0, 4) :: V) M1)) := by
  refine j_post (fun Q hQ => ?_)
  refine j_aload_n 0 dX2_init_0 rfl ?_
  refine j_objInit dX2_init_1 mX2_3 ob_init.1 ob_init.2 (Nat.le_of_ble_eq_true rfl) ?_
  refine j_aload_n 0 dX2_init_4 rfl ?_
  refine j_iconst 4 dX2_init_5 ic_4 ?_
  refine c_put dX2_init_6 fX2_9 h (by decide) sgC_55 rfl ?_
  clear h M
  intro M h
  refine j_aload_n 0 dX2_init_9 rfl ?_
  refine j_bipush 50 dX2_init_10 bp_50 ?_
  refine c_put dX2_init_12 fX2_15 h (by decide) sgC_55 rfl ?_
  clear h M
  intro M h
  refine j_aload_n 0 dX2_init_15 rfl ?_
  refine j_bipush 6 dX2_init_16 bp_6 ?_
  refine c_put dX2_init_18 fX2_18 h (by decide) sgC_55 rfl ?_
  clear h M
  intro M h
  refine j_aload_n 0 dX2_init_21 rfl ?_
  refine j_iconst 0 dX2_init_22 ic_0 ?_
  refine c_put dX2_init_23 fX2_21 h (by decide) sgC_55 rfl ?_
  clear h M
  intro M h
  refine j_aload_n 0 dX2_init_26 rfl ?_
  refine j_iconst 1 dX2_init_27 ic_1 ?_
  refine c_put dX2_init_28 fX2_24 h (by decide) sgC_55 rfl ?_
  clear h M
  intro M h
  refine j_aload_n 0 dX2_init_31 rfl ?_
  refine j_iconst 0 dX2_init_32 ic_0 ?_
  refine c_put dX2_init_33 fX2_27 h (by decide) sgC_55 rfl ?_
  clear h M
  intro M h
  refine j_aload_n 0 dX2_init_36 rfl ?_
  refine j_iconst (-1) dX2_init_37 ic_n1 ?_
  refine c_put dX2_init_38 fX2_30 h (by decide) sgC_55 rfl ?_
  clear h M
  intro M h
  refine j_aload_n 0 dX2_init_41 rfl ?_
  refine j_iconst 0 dX2_init_42 ic_0 ?_
  refine c_put dX2_init_43 fX2_33 h (by decide) sgC_55 rfl ?_
  clear h M
  intro M h
  refine j_aload_n 0 dX2_init_46 rfl ?_
  refine j_iconst 0 dX2_init_47 ic_0 ?_
  refine c_put dX2_init_48 fX2_36 h (by decide) sgC_55 rfl ?_
  clear h M
  intro M h
  refine j_aload_n 0 dX2_init_51 rfl ?_
  refine j_iconst 0 dX2_init_52 ic_0 ?_
  refine c_put dX2_init_53 fX2_39 h (by decide) sgC_55 rfl ?_
  clear h M
  intro M h
  refine j_aload_n 0 dX2_init_56 rfl ?_
  refine j_bipush 16 dX2_init_57 bp_16 ?_
  refine c_anew (t := 0) (kc := 25) (ks := 110) (N := 16) dX2_init_59 rfl clX2_42 ao_9 (fun _ => rfl) (by decide) (by decide) (by decide) h sgC_56 (by decide) ?_
  clear h M
  intro M h
  refine c_putrF dX2_init_62 fX2_44 rfl rfl h (by decide) sgC_55 rfl ?_
  clear h M
  intro M h
  refine j_aload_n 0 dX2_init_65 rfl ?_
  refine j_bipush 6 dX2_init_66 bp_6 ?_
  refine c_anew (t := 1) (kc := 24) (ks := 104) (N := 6) dX2_init_68 rfl clX2_48 ao_1 (fun _ => rfl) (by decide) (by decide) (by decide) h sgC_57 (by decide) ?_
  clear h M
  intro M h
  refine c_putrF dX2_init_71 fX2_50 rfl rfl h (by decide) sgC_55 rfl ?_
  clear h M
  intro M h
  refine j_aload_n 0 dX2_init_74 rfl ?_
  refine j_bipush 8 dX2_init_75 bp_8 ?_
  refine c_newI (kc := 23) (ks := 96) (N := 8) dX2_init_77 rfl rfl ac_int (by decide) (by decide) (by decide) h sgC_58 (by decide) ?_
  clear h M
  intro M h
  refine c_putrF dX2_init_79 fX2_54 rfl rfl h (by decide) sgC_55 rfl ?_
  clear h M
  intro M h
  refine j_aload_n 0 dX2_init_82 rfl ?_
  refine j_bipush 8 dX2_init_83 bp_8 ?_
  refine c_newI (kc := 22) (ks := 88) (N := 8) dX2_init_85 rfl rfl ac_int (by decide) (by decide) (by decide) h sgC_59 (by decide) ?_
  clear h M
  intro M h
  refine c_putrF dX2_init_87 fX2_58 rfl rfl h (by decide) sgC_55 rfl ?_
  clear h M
  intro M h
  refine j_iconst 0 dX2_init_90 ic_0 ?_
  refine j_istore_n (L' := [(1, .int 0), (0, .ref 55)]) dX2_init_91 (by decide) rfl ?_
  refine j_iload_n 0 dX2_init_92 rfl ?_
  refine j_aload_n 1 dX2_init_93 rfl ?_
  refine j_getr (q := 56) dX2_init_94 fX2_44 (h.sh (by decide) sgC_55) rfl (h.rd rfl) ?_
  refine j_alen dX2_init_97 (h.sh (by decide) sgC_56) (by decide) ?_
  refine j_icmp_geN (tgt := 120) 0 16 dX2_init_98 rfl (by decide) (by decide) (fun c => absurd c (by decide)) (fun c => ?_)
  refine j_aload_n 1 dX2_init_101 rfl ?_
  refine j_getr (q := 56) dX2_init_102 fX2_44 (h.sh (by decide) sgC_55) rfl (h.rd rfl) ?_
  refine j_iload_n 0 dX2_init_105 rfl ?_
  refine c_new (ci := 9) (kc := 21) (ks := 84) dX2_init_106 rfl nwX2_42 h sgC_60 (by decide) ?_
  clear h M
  intro M h
  refine j_dup dX2_init_109 rfl ?_
  refine j_callIN (kc := 21) (ks := 84) (a := 0) (b := 0) (d' := d) (As := []) (o := 60) dX2_init_110 kX2_61 rfl (by omega) rfl rfl rfl (Nat.le_of_ble_eq_true rfl) (Nat.le_of_ble_eq_true rfl) (T_i_X9 h (by decide) sgC_60) (kk_ev (fun M h => ?_))
  refine c_aast (t := 0) 0 dX2_init_113 h (by decide) sgC_56 (fun _ => rfl) (by decide) sgC_60 rfl (by decide) (by decide) ?_
  clear h M
  intro M h
  refine j_iinc 0 1 (L' := [(1, .int 1), (0, .ref 55)]) dX2_init_114 rfl (by decide) (by decide) rfl ?_
  refine j_goto (tgt := 92) dX2_init_117 rfl ?_
  refine j_iload_n 0 dX2_init_92 rfl ?_
  refine j_aload_n 1 dX2_init_93 rfl ?_
  refine j_getr (q := 56) dX2_init_94 fX2_44 (h.sh (by decide) sgC_55) rfl (h.rd rfl) ?_
  refine j_alen dX2_init_97 (h.sh (by decide) sgC_56) (by decide) ?_
  refine j_icmp_geN (tgt := 120) 1 16 dX2_init_98 rfl (by decide) (by decide) (fun c => absurd c (by decide)) (fun c => ?_)
  refine j_aload_n 1 dX2_init_101 rfl ?_
  refine j_getr (q := 56) dX2_init_102 fX2_44 (h.sh (by decide) sgC_55) rfl (h.rd rfl) ?_
  refine j_iload_n 0 dX2_init_105 rfl ?_
  refine c_new (ci := 9) (kc := 20) (ks := 80) dX2_init_106 rfl nwX2_42 h sgC_61 (by decide) ?_
  clear h M
  intro M h
  refine j_dup dX2_init_109 rfl ?_
  refine j_callIN (kc := 20) (ks := 80) (a := 0) (b := 0) (d' := d) (As := []) (o := 61) dX2_init_110 kX2_61 rfl (by omega) rfl rfl rfl (Nat.le_of_ble_eq_true rfl) (Nat.le_of_ble_eq_true rfl) (T_i_X9 h (by decide) sgC_61) (kk_ev (fun M h => ?_))
  refine c_aast (t := 0) 1 dX2_init_113 h (by decide) sgC_56 (fun _ => rfl) (by decide) sgC_61 rfl (by decide) (by decide) ?_
  clear h M
  intro M h
  refine j_iinc 0 2 (L' := [(1, .int 2), (0, .ref 55)]) dX2_init_114 rfl (by decide) (by decide) rfl ?_
  refine j_goto (tgt := 92) dX2_init_117 rfl ?_
  refine j_iload_n 0 dX2_init_92 rfl ?_
  refine j_aload_n 1 dX2_init_93 rfl ?_
  refine j_getr (q := 56) dX2_init_94 fX2_44 (h.sh (by decide) sgC_55) rfl (h.rd rfl) ?_
  refine j_alen dX2_init_97 (h.sh (by decide) sgC_56) (by decide) ?_
  refine j_icmp_geN (tgt := 120) 2 16 dX2_init_98 rfl (by decide) (by decide) (fun c => absurd c (by decide)) (fun c => ?_)
  refine j_aload_n 1 dX2_init_101 rfl ?_
  refine j_getr (q := 56) dX2_init_102 fX2_44 (h.sh (by decide) sgC_55) rfl (h.rd rfl) ?_
  refine j_iload_n 0 dX2_init_105 rfl ?_
  refine c_new (ci := 9) (kc := 19) (ks := 76) dX2_init_106 rfl nwX2_42 h sgC_62 (by decide) ?_
  clear h M
  intro M h
  refine j_dup dX2_init_109 rfl ?_
  refine j_callIN (kc := 19) (ks := 76) (a := 0) (b := 0) (d' := d) (As := []) (o := 62) dX2_init_110 kX2_61 rfl (by omega) rfl rfl rfl (Nat.le_of_ble_eq_true rfl) (Nat.le_of_ble_eq_true rfl) (T_i_X9 h (by decide) sgC_62) (kk_ev (fun M h => ?_))
  refine c_aast (t := 0) 2 dX2_init_113 h (by decide) sgC_56 (fun _ => rfl) (by decide) sgC_62 rfl (by decide) (by decide) ?_
  clear h M
  intro M h
  refine j_iinc 0 3 (L' := [(1, .int 3), (0, .ref 55)]) dX2_init_114 rfl (by decide) (by decide) rfl ?_
  refine j_goto (tgt := 92) dX2_init_117 rfl ?_
  refine j_iload_n 0 dX2_init_92 rfl ?_
  refine j_aload_n 1 dX2_init_93 rfl ?_
  refine j_getr (q := 56) dX2_init_94 fX2_44 (h.sh (by decide) sgC_55) rfl (h.rd rfl) ?_
  refine j_alen dX2_init_97 (h.sh (by decide) sgC_56) (by decide) ?_
  refine j_icmp_geN (tgt := 120) 3 16 dX2_init_98 rfl (by decide) (by decide) (fun c => absurd c (by decide)) (fun c => ?_)
  refine j_aload_n 1 dX2_init_101 rfl ?_
  refine j_getr (q := 56) dX2_init_102 fX2_44 (h.sh (by decide) sgC_55) rfl (h.rd rfl) ?_
  refine j_iload_n 0 dX2_init_105 rfl ?_
  refine c_new (ci := 9) (kc := 18) (ks := 72) dX2_init_106 rfl nwX2_42 h sgC_63 (by decide) ?_
  clear h M
  intro M h
  refine j_dup dX2_init_109 rfl ?_
  refine j_callIN (kc := 18) (ks := 72) (a := 0) (b := 0) (d' := d) (As := []) (o := 63) dX2_init_110 kX2_61 rfl (by omega) rfl rfl rfl (Nat.le_of_ble_eq_true rfl) (Nat.le_of_ble_eq_true rfl) (T_i_X9 h (by decide) sgC_63) (kk_ev (fun M h => ?_))
  refine c_aast (t := 0) 3 dX2_init_113 h (by decide) sgC_56 (fun _ => rfl) (by decide) sgC_63 rfl (by decide) (by decide) ?_
  clear h M
  intro M h
  refine j_iinc 0 4 (L' := [(1, .int 4), (0, .ref 55)]) dX2_init_114 rfl (by decide) (by decide) rfl ?_
  refine j_goto (tgt := 92) dX2_init_117 rfl ?_
  refine j_iload_n 0 dX2_init_92 rfl ?_
  refine j_aload_n 1 dX2_init_93 rfl ?_
  refine j_getr (q := 56) dX2_init_94 fX2_44 (h.sh (by decide) sgC_55) rfl (h.rd rfl) ?_
  refine j_alen dX2_init_97 (h.sh (by decide) sgC_56) (by decide) ?_
  refine j_icmp_geN (tgt := 120) 4 16 dX2_init_98 rfl (by decide) (by decide) (fun c => absurd c (by decide)) (fun c => ?_)
  refine j_aload_n 1 dX2_init_101 rfl ?_
  refine j_getr (q := 56) dX2_init_102 fX2_44 (h.sh (by decide) sgC_55) rfl (h.rd rfl) ?_
  refine j_iload_n 0 dX2_init_105 rfl ?_
  refine c_new (ci := 9) (kc := 17) (ks := 68) dX2_init_106 rfl nwX2_42 h sgC_64 (by decide) ?_
  clear h M
  intro M h
  refine j_dup dX2_init_109 rfl ?_
  refine j_callIN (kc := 17) (ks := 68) (a := 0) (b := 0) (d' := d) (As := []) (o := 64) dX2_init_110 kX2_61 rfl (by omega) rfl rfl rfl (Nat.le_of_ble_eq_true rfl) (Nat.le_of_ble_eq_true rfl) (T_i_X9 h (by decide) sgC_64) (kk_ev (fun M h => ?_))
  refine c_aast (t := 0) 4 dX2_init_113 h (by decide) sgC_56 (fun _ => rfl) (by decide) sgC_64 rfl (by decide) (by decide) ?_
  clear h M
  intro M h
  refine j_iinc 0 5 (L' := [(1, .int 5), (0, .ref 55)]) dX2_init_114 rfl (by decide) (by decide) rfl ?_
  refine j_goto (tgt := 92) dX2_init_117 rfl ?_
  refine j_iload_n 0 dX2_init_92 rfl ?_
  refine j_aload_n 1 dX2_init_93 rfl ?_
  refine j_getr (q := 56) dX2_init_94 fX2_44 (h.sh (by decide) sgC_55) rfl (h.rd rfl) ?_
  refine j_alen dX2_init_97 (h.sh (by decide) sgC_56) (by decide) ?_
  refine j_icmp_geN (tgt := 120) 5 16 dX2_init_98 rfl (by decide) (by decide) (fun c => absurd c (by decide)) (fun c => ?_)
  refine j_aload_n 1 dX2_init_101 rfl ?_
  refine j_getr (q := 56) dX2_init_102 fX2_44 (h.sh (by decide) sgC_55) rfl (h.rd rfl) ?_
  refine j_iload_n 0 dX2_init_105 rfl ?_
  refine c_new (ci := 9) (kc := 16) (ks := 64) dX2_init_106 rfl nwX2_42 h sgC_65 (by decide) ?_
  clear h M
  intro M h
  refine j_dup dX2_init_109 rfl ?_
  refine j_callIN (kc := 16) (ks := 64) (a := 0) (b := 0) (d' := d) (As := []) (o := 65) dX2_init_110 kX2_61 rfl (by omega) rfl rfl rfl (Nat.le_of_ble_eq_true rfl) (Nat.le_of_ble_eq_true rfl) (T_i_X9 h (by decide) sgC_65) (kk_ev (fun M h => ?_))
  refine c_aast (t := 0) 5 dX2_init_113 h (by decide) sgC_56 (fun _ => rfl) (by decide) sgC_65 rfl (by decide) (by decide) ?_
  clear h M
  intro M h
  refine j_iinc 0 6 (L' := [(1, .int 6), (0, .ref 55)]) dX2_init_114 rfl (by decide) (by decide) rfl ?_
  refine j_goto (tgt := 92) dX2_init_117 rfl ?_
  refine j_iload_n 0 dX2_init_92 rfl ?_
  refine j_aload_n 1 dX2_init_93 rfl ?_
  refine j_getr (q := 56) dX2_init_94 fX2_44 (h.sh (by decide) sgC_55) rfl (h.rd rfl) ?_
  refine j_alen dX2_init_97 (h.sh (by decide) sgC_56) (by decide) ?_
  refine j_icmp_geN (tgt := 120) 6 16 dX2_init_98 rfl (by decide) (by decide) (fun c => absurd c (by decide)) (fun c => ?_)
  refine j_aload_n 1 dX2_init_101 rfl ?_
  refine j_getr (q := 56) dX2_init_102 fX2_44 (h.sh (by decide) sgC_55) rfl (h.rd rfl) ?_
  refine j_iload_n 0 dX2_init_105 rfl ?_
  refine c_new (ci := 9) (kc := 15) (ks := 60) dX2_init_106 rfl nwX2_42 h sgC_66 (by decide) ?_
  clear h M
  intro M h
  refine j_dup dX2_init_109 rfl ?_
  refine j_callIN (kc := 15) (ks := 60) (a := 0) (b := 0) (d' := d) (As := []) (o := 66) dX2_init_110 kX2_61 rfl (by omega) rfl rfl rfl (Nat.le_of_ble_eq_true rfl) (Nat.le_of_ble_eq_true rfl) (T_i_X9 h (by decide) sgC_66) (kk_ev (fun M h => ?_))
  refine c_aast (t := 0) 6 dX2_init_113 h (by decide) sgC_56 (fun _ => rfl) (by decide) sgC_66 rfl (by decide) (by decide) ?_
  clear h M
  intro M h
  refine j_iinc 0 7 (L' := [(1, .int 7), (0, .ref 55)]) dX2_init_114 rfl (by decide) (by decide) rfl ?_
  refine j_goto (tgt := 92) dX2_init_117 rfl ?_
  refine j_iload_n 0 dX2_init_92 rfl ?_
  refine j_aload_n 1 dX2_init_93 rfl ?_
  refine j_getr (q := 56) dX2_init_94 fX2_44 (h.sh (by decide) sgC_55) rfl (h.rd rfl) ?_
  refine j_alen dX2_init_97 (h.sh (by decide) sgC_56) (by decide) ?_
  refine j_icmp_geN (tgt := 120) 7 16 dX2_init_98 rfl (by decide) (by decide) (fun c => absurd c (by decide)) (fun c => ?_)
  refine j_aload_n 1 dX2_init_101 rfl ?_
  refine j_getr (q := 56) dX2_init_102 fX2_44 (h.sh (by decide) sgC_55) rfl (h.rd rfl) ?_
  refine j_iload_n 0 dX2_init_105 rfl ?_
  refine c_new (ci := 9) (kc := 14) (ks := 56) dX2_init_106 rfl nwX2_42 h sgC_67 (by decide) ?_
  clear h M
  intro M h
  refine j_dup dX2_init_109 rfl ?_
  refine j_callIN (kc := 14) (ks := 56) (a := 0) (b := 0) (d' := d) (As := []) (o := 67) dX2_init_110 kX2_61 rfl (by omega) rfl rfl rfl (Nat.le_of_ble_eq_true rfl) (Nat.le_of_ble_eq_true rfl) (T_i_X9 h (by decide) sgC_67) (kk_ev (fun M h => ?_))
  refine c_aast (t := 0) 7 dX2_init_113 h (by decide) sgC_56 (fun _ => rfl) (by decide) sgC_67 rfl (by decide) (by decide) ?_
  clear h M
  intro M h
  refine j_iinc 0 8 (L' := [(1, .int 8), (0, .ref 55)]) dX2_init_114 rfl (by decide) (by decide) rfl ?_
  refine j_goto (tgt := 92) dX2_init_117 rfl ?_
  refine j_iload_n 0 dX2_init_92 rfl ?_
  refine j_aload_n 1 dX2_init_93 rfl ?_
  refine j_getr (q := 56) dX2_init_94 fX2_44 (h.sh (by decide) sgC_55) rfl (h.rd rfl) ?_
  refine j_alen dX2_init_97 (h.sh (by decide) sgC_56) (by decide) ?_
  refine j_icmp_geN (tgt := 120) 8 16 dX2_init_98 rfl (by decide) (by decide) (fun c => absurd c (by decide)) (fun c => ?_)
  refine j_aload_n 1 dX2_init_101 rfl ?_
  refine j_getr (q := 56) dX2_init_102 fX2_44 (h.sh (by decide) sgC_55) rfl (h.rd rfl) ?_
  refine j_iload_n 0 dX2_init_105 rfl ?_
  refine c_new (ci := 9) (kc := 13) (ks := 52) dX2_init_106 rfl nwX2_42 h sgC_68 (by decide) ?_
  clear h M
  intro M h
  refine j_dup dX2_init_109 rfl ?_
  refine j_callIN (kc := 13) (ks := 52) (a := 0) (b := 0) (d' := d) (As := []) (o := 68) dX2_init_110 kX2_61 rfl (by omega) rfl rfl rfl (Nat.le_of_ble_eq_true rfl) (Nat.le_of_ble_eq_true rfl) (T_i_X9 h (by decide) sgC_68) (kk_ev (fun M h => ?_))
  refine c_aast (t := 0) 8 dX2_init_113 h (by decide) sgC_56 (fun _ => rfl) (by decide) sgC_68 rfl (by decide) (by decide) ?_
  clear h M
  intro M h
  refine j_iinc 0 9 (L' := [(1, .int 9), (0, .ref 55)]) dX2_init_114 rfl (by decide) (by decide) rfl ?_
  refine j_goto (tgt := 92) dX2_init_117 rfl ?_
  refine j_iload_n 0 dX2_init_92 rfl ?_
  refine j_aload_n 1 dX2_init_93 rfl ?_
  refine j_getr (q := 56) dX2_init_94 fX2_44 (h.sh (by decide) sgC_55) rfl (h.rd rfl) ?_
  refine j_alen dX2_init_97 (h.sh (by decide) sgC_56) (by decide) ?_
  refine j_icmp_geN (tgt := 120) 9 16 dX2_init_98 rfl (by decide) (by decide) (fun c => absurd c (by decide)) (fun c => ?_)
  refine j_aload_n 1 dX2_init_101 rfl ?_
  refine j_getr (q := 56) dX2_init_102 fX2_44 (h.sh (by decide) sgC_55) rfl (h.rd rfl) ?_
  refine j_iload_n 0 dX2_init_105 rfl ?_
  refine c_new (ci := 9) (kc := 12) (ks := 48) dX2_init_106 rfl nwX2_42 h sgC_69 (by decide) ?_
  clear h M
  intro M h
  refine j_dup dX2_init_109 rfl ?_
  refine j_callIN (kc := 12) (ks := 48) (a := 0) (b := 0) (d' := d) (As := []) (o := 69) dX2_init_110 kX2_61 rfl (by omega) rfl rfl rfl (Nat.le_of_ble_eq_true rfl) (Nat.le_of_ble_eq_true rfl) (T_i_X9 h (by decide) sgC_69) (kk_ev (fun M h => ?_))
  refine c_aast (t := 0) 9 dX2_init_113 h (by decide) sgC_56 (fun _ => rfl) (by decide) sgC_69 rfl (by decide) (by decide) ?_
  clear h M
  intro M h
  refine j_iinc 0 10 (L' := [(1, .int 10), (0, .ref 55)]) dX2_init_114 rfl (by decide) (by decide) rfl ?_
  refine j_goto (tgt := 92) dX2_init_117 rfl ?_
  refine j_iload_n 0 dX2_init_92 rfl ?_
  refine j_aload_n 1 dX2_init_93 rfl ?_
  refine j_getr (q := 56) dX2_init_94 fX2_44 (h.sh (by decide) sgC_55) rfl (h.rd rfl) ?_
  refine j_alen dX2_init_97 (h.sh (by decide) sgC_56) (by decide) ?_
  refine j_icmp_geN (tgt := 120) 10 16 dX2_init_98 rfl (by decide) (by decide) (fun c => absurd c (by decide)) (fun c => ?_)
  refine j_aload_n 1 dX2_init_101 rfl ?_
  refine j_getr (q := 56) dX2_init_102 fX2_44 (h.sh (by decide) sgC_55) rfl (h.rd rfl) ?_
  refine j_iload_n 0 dX2_init_105 rfl ?_
  refine c_new (ci := 9) (kc := 11) (ks := 44) dX2_init_106 rfl nwX2_42 h sgC_70 (by decide) ?_
  clear h M
  intro M h
  refine j_dup dX2_init_109 rfl ?_
  refine j_callIN (kc := 11) (ks := 44) (a := 0) (b := 0) (d' := d) (As := []) (o := 70) dX2_init_110 kX2_61 rfl (by omega) rfl rfl rfl (Nat.le_of_ble_eq_true rfl) (Nat.le_of_ble_eq_true rfl) (T_i_X9 h (by decide) sgC_70) (kk_ev (fun M h => ?_))
  refine c_aast (t := 0) 10 dX2_init_113 h (by decide) sgC_56 (fun _ => rfl) (by decide) sgC_70 rfl (by decide) (by decide) ?_
  clear h M
  intro M h
  refine j_iinc 0 11 (L' := [(1, .int 11), (0, .ref 55)]) dX2_init_114 rfl (by decide) (by decide) rfl ?_
  refine j_goto (tgt := 92) dX2_init_117 rfl ?_
  refine j_iload_n 0 dX2_init_92 rfl ?_
  refine j_aload_n 1 dX2_init_93 rfl ?_
  refine j_getr (q := 56) dX2_init_94 fX2_44 (h.sh (by decide) sgC_55) rfl (h.rd rfl) ?_
  refine j_alen dX2_init_97 (h.sh (by decide) sgC_56) (by decide) ?_
  refine j_icmp_geN (tgt := 120) 11 16 dX2_init_98 rfl (by decide) (by decide) (fun c => absurd c (by decide)) (fun c => ?_)
  refine j_aload_n 1 dX2_init_101 rfl ?_
  refine j_getr (q := 56) dX2_init_102 fX2_44 (h.sh (by decide) sgC_55) rfl (h.rd rfl) ?_
  refine j_iload_n 0 dX2_init_105 rfl ?_
  refine c_new (ci := 9) (kc := 10) (ks := 40) dX2_init_106 rfl nwX2_42 h sgC_71 (by decide) ?_
  clear h M
  intro M h
  refine j_dup dX2_init_109 rfl ?_
  refine j_callIN (kc := 10) (ks := 40) (a := 0) (b := 0) (d' := d) (As := []) (o := 71) dX2_init_110 kX2_61 rfl (by omega) rfl rfl rfl (Nat.le_of_ble_eq_true rfl) (Nat.le_of_ble_eq_true rfl) (T_i_X9 h (by decide) sgC_71) (kk_ev (fun M h => ?_))
  refine c_aast (t := 0) 11 dX2_init_113 h (by decide) sgC_56 (fun _ => rfl) (by decide) sgC_71 rfl (by decide) (by decide) ?_
  clear h M
  intro M h
  refine j_iinc 0 12 (L' := [(1, .int 12), (0, .ref 55)]) dX2_init_114 rfl (by decide) (by decide) rfl ?_
  refine j_goto (tgt := 92) dX2_init_117 rfl ?_
  refine j_iload_n 0 dX2_init_92 rfl ?_
  refine j_aload_n 1 dX2_init_93 rfl ?_
  refine j_getr (q := 56) dX2_init_94 fX2_44 (h.sh (by decide) sgC_55) rfl (h.rd rfl) ?_
  refine j_alen dX2_init_97 (h.sh (by decide) sgC_56) (by decide) ?_
  refine j_icmp_geN (tgt := 120) 12 16 dX2_init_98 rfl (by decide) (by decide) (fun c => absurd c (by decide)) (fun c => ?_)
  refine j_aload_n 1 dX2_init_101 rfl ?_
  refine j_getr (q := 56) dX2_init_102 fX2_44 (h.sh (by decide) sgC_55) rfl (h.rd rfl) ?_
  refine j_iload_n 0 dX2_init_105 rfl ?_
  refine c_new (ci := 9) (kc := 9) (ks := 36) dX2_init_106 rfl nwX2_42 h sgC_72 (by decide) ?_
  clear h M
  intro M h
  refine j_dup dX2_init_109 rfl ?_
  refine j_callIN (kc := 9) (ks := 36) (a := 0) (b := 0) (d' := d) (As := []) (o := 72) dX2_init_110 kX2_61 rfl (by omega) rfl rfl rfl (Nat.le_of_ble_eq_true rfl) (Nat.le_of_ble_eq_true rfl) (T_i_X9 h (by decide) sgC_72) (kk_ev (fun M h => ?_))
  refine c_aast (t := 0) 12 dX2_init_113 h (by decide) sgC_56 (fun _ => rfl) (by decide) sgC_72 rfl (by decide) (by decide) ?_
  clear h M
  intro M h
  refine j_iinc 0 13 (L' := [(1, .int 13), (0, .ref 55)]) dX2_init_114 rfl (by decide) (by decide) rfl ?_
  refine j_goto (tgt := 92) dX2_init_117 rfl ?_
  refine j_iload_n 0 dX2_init_92 rfl ?_
  refine j_aload_n 1 dX2_init_93 rfl ?_
  refine j_getr (q := 56) dX2_init_94 fX2_44 (h.sh (by decide) sgC_55) rfl (h.rd rfl) ?_
  refine j_alen dX2_init_97 (h.sh (by decide) sgC_56) (by decide) ?_
  refine j_icmp_geN (tgt := 120) 13 16 dX2_init_98 rfl (by decide) (by decide) (fun c => absurd c (by decide)) (fun c => ?_)
  refine j_aload_n 1 dX2_init_101 rfl ?_
  refine j_getr (q := 56) dX2_init_102 fX2_44 (h.sh (by decide) sgC_55) rfl (h.rd rfl) ?_
  refine j_iload_n 0 dX2_init_105 rfl ?_
  refine c_new (ci := 9) (kc := 8) (ks := 32) dX2_init_106 rfl nwX2_42 h sgC_73 (by decide) ?_
  clear h M
  intro M h
  refine j_dup dX2_init_109 rfl ?_
  refine j_callIN (kc := 8) (ks := 32) (a := 0) (b := 0) (d' := d) (As := []) (o := 73) dX2_init_110 kX2_61 rfl (by omega) rfl rfl rfl (Nat.le_of_ble_eq_true rfl) (Nat.le_of_ble_eq_true rfl) (T_i_X9 h (by decide) sgC_73) (kk_ev (fun M h => ?_))
  refine c_aast (t := 0) 13 dX2_init_113 h (by decide) sgC_56 (fun _ => rfl) (by decide) sgC_73 rfl (by decide) (by decide) ?_
  clear h M
  intro M h
  refine j_iinc 0 14 (L' := [(1, .int 14), (0, .ref 55)]) dX2_init_114 rfl (by decide) (by decide) rfl ?_
  refine j_goto (tgt := 92) dX2_init_117 rfl ?_
  refine j_iload_n 0 dX2_init_92 rfl ?_
  refine j_aload_n 1 dX2_init_93 rfl ?_
  refine j_getr (q := 56) dX2_init_94 fX2_44 (h.sh (by decide) sgC_55) rfl (h.rd rfl) ?_
  refine j_alen dX2_init_97 (h.sh (by decide) sgC_56) (by decide) ?_
  refine j_icmp_geN (tgt := 120) 14 16 dX2_init_98 rfl (by decide) (by decide) (fun c => absurd c (by decide)) (fun c => ?_)
  refine j_aload_n 1 dX2_init_101 rfl ?_
  refine j_getr (q := 56) dX2_init_102 fX2_44 (h.sh (by decide) sgC_55) rfl (h.rd rfl) ?_
  refine j_iload_n 0 dX2_init_105 rfl ?_
  refine c_new (ci := 9) (kc := 7) (ks := 28) dX2_init_106 rfl nwX2_42 h sgC_74 (by decide) ?_
  clear h M
  intro M h
  refine j_dup dX2_init_109 rfl ?_
  refine j_callIN (kc := 7) (ks := 28) (a := 0) (b := 0) (d' := d) (As := []) (o := 74) dX2_init_110 kX2_61 rfl (by omega) rfl rfl rfl (Nat.le_of_ble_eq_true rfl) (Nat.le_of_ble_eq_true rfl) (T_i_X9 h (by decide) sgC_74) (kk_ev (fun M h => ?_))
  refine c_aast (t := 0) 14 dX2_init_113 h (by decide) sgC_56 (fun _ => rfl) (by decide) sgC_74 rfl (by decide) (by decide) ?_
  clear h M
  intro M h
  refine j_iinc 0 15 (L' := [(1, .int 15), (0, .ref 55)]) dX2_init_114 rfl (by decide) (by decide) rfl ?_
  refine j_goto (tgt := 92) dX2_init_117 rfl ?_
  refine j_iload_n 0 dX2_init_92 rfl ?_
  refine j_aload_n 1 dX2_init_93 rfl ?_
  refine j_getr (q := 56) dX2_init_94 fX2_44 (h.sh (by decide) sgC_55) rfl (h.rd rfl) ?_
  refine j_alen dX2_init_97 (h.sh (by decide) sgC_56) (by decide) ?_
  refine j_icmp_geN (tgt := 120) 15 16 dX2_init_98 rfl (by decide) (by decide) (fun c => absurd c (by decide)) (fun c => ?_)
  refine j_aload_n 1 dX2_init_101 rfl ?_
  refine j_getr (q := 56) dX2_init_102 fX2_44 (h.sh (by decide) sgC_55) rfl (h.rd rfl) ?_
  refine j_iload_n 0 dX2_init_105 rfl ?_
  refine c_new (ci := 9) (kc := 6) (ks := 24) dX2_init_106 rfl nwX2_42 h sgC_75 (by decide) ?_
  clear h M
  intro M h
  refine j_dup dX2_init_109 rfl ?_
  refine j_callIN (kc := 6) (ks := 24) (a := 0) (b := 0) (d' := d) (As := []) (o := 75) dX2_init_110 kX2_61 rfl (by omega) rfl rfl rfl (Nat.le_of_ble_eq_true rfl) (Nat.le_of_ble_eq_true rfl) (T_i_X9 h (by decide) sgC_75) (kk_ev (fun M h => ?_))
  refine c_aast (t := 0) 15 dX2_init_113 h (by decide) sgC_56 (fun _ => rfl) (by decide) sgC_75 rfl (by decide) (by decide) ?_
  clear h M
  intro M h
  refine j_iinc 0 16 (L' := [(1, .int 16), (0, .ref 55)]) dX2_init_114 rfl (by decide) (by decide) rfl ?_
  refine j_goto (tgt := 92) dX2_init_117 rfl ?_
  refine j_iload_n 0 dX2_init_92 rfl ?_
  refine j_aload_n 1 dX2_init_93 rfl ?_
  refine j_getr (q := 56) dX2_init_94 fX2_44 (h.sh (by decide) sgC_55) rfl (h.rd rfl) ?_
  refine j_alen dX2_init_97 (h.sh (by decide) sgC_56) (by decide) ?_
  refine j_icmp_geN (tgt := 120) 16 16 dX2_init_98 rfl (by decide) (by decide) (fun c => ?_) (fun c => absurd c (by decide))
  refine j_iconst 0 dX2_init_120 ic_0 ?_
  refine j_istore_n (L' := [(1, .int 0), (0, .ref 55)]) dX2_init_121 (by decide) rfl ?_
  refine j_iload_n 0 dX2_init_122 rfl ?_
  refine j_aload_n 1 dX2_init_123 rfl ?_
  refine j_getr (q := 57) dX2_init_124 fX2_50 (h.sh (by decide) sgC_55) rfl (h.rd rfl) ?_
  refine j_alen dX2_init_127 (h.sh (by decide) sgC_57) (by decide) ?_
  refine j_icmp_geN (tgt := 150) 0 6 dX2_init_128 rfl (by decide) (by decide) (fun c => absurd c (by decide)) (fun c => ?_)
  refine j_aload_n 1 dX2_init_131 rfl ?_
  refine j_getr (q := 57) dX2_init_132 fX2_50 (h.sh (by decide) sgC_55) rfl (h.rd rfl) ?_
  refine j_iload_n 0 dX2_init_135 rfl ?_
  refine c_new (ci := 1) (kc := 5) (ks := 20) dX2_init_136 rfl nwX2_48 h sgC_76 (by decide) ?_
  clear h M
  intro M h
  refine j_dup dX2_init_139 rfl ?_
  refine j_callIN (kc := 5) (ks := 20) (a := 0) (b := 0) (d' := d) (As := []) (o := 76) dX2_init_140 kX2_62 rfl (by omega) rfl rfl rfl (Nat.le_of_ble_eq_true rfl) (Nat.le_of_ble_eq_true rfl) (T_i_X1 h (by decide) sgC_76) (kk_ev (fun M h => ?_))
  refine c_aast (t := 1) 0 dX2_init_143 h (by decide) sgC_57 (fun _ => rfl) (by decide) sgC_76 rfl (by decide) (by decide) ?_
  clear h M
  intro M h
  refine j_iinc 0 1 (L' := [(1, .int 1), (0, .ref 55)]) dX2_init_144 rfl (by decide) (by decide) rfl ?_
  refine j_goto (tgt := 122) dX2_init_147 rfl ?_
  refine j_iload_n 0 dX2_init_122 rfl ?_
  refine j_aload_n 1 dX2_init_123 rfl ?_
  refine j_getr (q := 57) dX2_init_124 fX2_50 (h.sh (by decide) sgC_55) rfl (h.rd rfl) ?_
  refine j_alen dX2_init_127 (h.sh (by decide) sgC_57) (by decide) ?_
  refine j_icmp_geN (tgt := 150) 1 6 dX2_init_128 rfl (by decide) (by decide) (fun c => absurd c (by decide)) (fun c => ?_)
  refine j_aload_n 1 dX2_init_131 rfl ?_
  refine j_getr (q := 57) dX2_init_132 fX2_50 (h.sh (by decide) sgC_55) rfl (h.rd rfl) ?_
  refine j_iload_n 0 dX2_init_135 rfl ?_
  refine c_new (ci := 1) (kc := 4) (ks := 16) dX2_init_136 rfl nwX2_48 h sgC_77 (by decide) ?_
  clear h M
  intro M h
  refine j_dup dX2_init_139 rfl ?_
  refine j_callIN (kc := 4) (ks := 16) (a := 0) (b := 0) (d' := d) (As := []) (o := 77) dX2_init_140 kX2_62 rfl (by omega) rfl rfl rfl (Nat.le_of_ble_eq_true rfl) (Nat.le_of_ble_eq_true rfl) (T_i_X1 h (by decide) sgC_77) (kk_ev (fun M h => ?_))
  refine c_aast (t := 1) 1 dX2_init_143 h (by decide) sgC_57 (fun _ => rfl) (by decide) sgC_77 rfl (by decide) (by decide) ?_
  clear h M
  intro M h
  refine j_iinc 0 2 (L' := [(1, .int 2), (0, .ref 55)]) dX2_init_144 rfl (by decide) (by decide) rfl ?_
  refine j_goto (tgt := 122) dX2_init_147 rfl ?_
  refine j_iload_n 0 dX2_init_122 rfl ?_
  refine j_aload_n 1 dX2_init_123 rfl ?_
  refine j_getr (q := 57) dX2_init_124 fX2_50 (h.sh (by decide) sgC_55) rfl (h.rd rfl) ?_
  refine j_alen dX2_init_127 (h.sh (by decide) sgC_57) (by decide) ?_
  refine j_icmp_geN (tgt := 150) 2 6 dX2_init_128 rfl (by decide) (by decide) (fun c => absurd c (by decide)) (fun c => ?_)
  refine j_aload_n 1 dX2_init_131 rfl ?_
  refine j_getr (q := 57) dX2_init_132 fX2_50 (h.sh (by decide) sgC_55) rfl (h.rd rfl) ?_
  refine j_iload_n 0 dX2_init_135 rfl ?_
  refine c_new (ci := 1) (kc := 3) (ks := 12) dX2_init_136 rfl nwX2_48 h sgC_78 (by decide) ?_
  clear h M
  intro M h
  refine j_dup dX2_init_139 rfl ?_
  refine j_callIN (kc := 3) (ks := 12) (a := 0) (b := 0) (d' := d) (As := []) (o := 78) dX2_init_140 kX2_62 rfl (by omega) rfl rfl rfl (Nat.le_of_ble_eq_true rfl) (Nat.le_of_ble_eq_true rfl) (T_i_X1 h (by decide) sgC_78) (kk_ev (fun M h => ?_))
  refine c_aast (t := 1) 2 dX2_init_143 h (by decide) sgC_57 (fun _ => rfl) (by decide) sgC_78 rfl (by decide) (by decide) ?_
  clear h M
  intro M h
  refine j_iinc 0 3 (L' := [(1, .int 3), (0, .ref 55)]) dX2_init_144 rfl (by decide) (by decide) rfl ?_
  refine j_goto (tgt := 122) dX2_init_147 rfl ?_
  refine j_iload_n 0 dX2_init_122 rfl ?_
  refine j_aload_n 1 dX2_init_123 rfl ?_
  refine j_getr (q := 57) dX2_init_124 fX2_50 (h.sh (by decide) sgC_55) rfl (h.rd rfl) ?_
  refine j_alen dX2_init_127 (h.sh (by decide) sgC_57) (by decide) ?_
  refine j_icmp_geN (tgt := 150) 3 6 dX2_init_128 rfl (by decide) (by decide) (fun c => absurd c (by decide)) (fun c => ?_)
  refine j_aload_n 1 dX2_init_131 rfl ?_
  refine j_getr (q := 57) dX2_init_132 fX2_50 (h.sh (by decide) sgC_55) rfl (h.rd rfl) ?_
  refine j_iload_n 0 dX2_init_135 rfl ?_
  refine c_new (ci := 1) (kc := 2) (ks := 8) dX2_init_136 rfl nwX2_48 h sgC_79 (by decide) ?_
  clear h M
  intro M h
  refine j_dup dX2_init_139 rfl ?_
  refine j_callIN (kc := 2) (ks := 8) (a := 0) (b := 0) (d' := d) (As := []) (o := 79) dX2_init_140 kX2_62 rfl (by omega) rfl rfl rfl (Nat.le_of_ble_eq_true rfl) (Nat.le_of_ble_eq_true rfl) (T_i_X1 h (by decide) sgC_79) (kk_ev (fun M h => ?_))
  refine c_aast (t := 1) 3 dX2_init_143 h (by decide) sgC_57 (fun _ => rfl) (by decide) sgC_79 rfl (by decide) (by decide) ?_
  clear h M
  intro M h
  refine j_iinc 0 4 (L' := [(1, .int 4), (0, .ref 55)]) dX2_init_144 rfl (by decide) (by decide) rfl ?_
  refine j_goto (tgt := 122) dX2_init_147 rfl ?_
  refine j_iload_n 0 dX2_init_122 rfl ?_
  refine j_aload_n 1 dX2_init_123 rfl ?_
  refine j_getr (q := 57) dX2_init_124 fX2_50 (h.sh (by decide) sgC_55) rfl (h.rd rfl) ?_
  refine j_alen dX2_init_127 (h.sh (by decide) sgC_57) (by decide) ?_
  refine j_icmp_geN (tgt := 150) 4 6 dX2_init_128 rfl (by decide) (by decide) (fun c => absurd c (by decide)) (fun c => ?_)
  refine j_aload_n 1 dX2_init_131 rfl ?_
  refine j_getr (q := 57) dX2_init_132 fX2_50 (h.sh (by decide) sgC_55) rfl (h.rd rfl) ?_
  refine j_iload_n 0 dX2_init_135 rfl ?_
  refine c_new (ci := 1) (kc := 1) (ks := 4) dX2_init_136 rfl nwX2_48 h sgC_80 (by decide) ?_
  clear h M
  intro M h
  refine j_dup dX2_init_139 rfl ?_
  refine j_callIN (kc := 1) (ks := 4) (a := 0) (b := 0) (d' := d) (As := []) (o := 80) dX2_init_140 kX2_62 rfl (by omega) rfl rfl rfl (Nat.le_of_ble_eq_true rfl) (Nat.le_of_ble_eq_true rfl) (T_i_X1 h (by decide) sgC_80) (kk_ev (fun M h => ?_))
  refine c_aast (t := 1) 4 dX2_init_143 h (by decide) sgC_57 (fun _ => rfl) (by decide) sgC_80 rfl (by decide) (by decide) ?_
  clear h M
  intro M h
  refine j_iinc 0 5 (L' := [(1, .int 5), (0, .ref 55)]) dX2_init_144 rfl (by decide) (by decide) rfl ?_
  refine j_goto (tgt := 122) dX2_init_147 rfl ?_
  refine j_iload_n 0 dX2_init_122 rfl ?_
  refine j_aload_n 1 dX2_init_123 rfl ?_
  refine j_getr (q := 57) dX2_init_124 fX2_50 (h.sh (by decide) sgC_55) rfl (h.rd rfl) ?_
  refine j_alen dX2_init_127 (h.sh (by decide) sgC_57) (by decide) ?_
  refine j_icmp_geN (tgt := 150) 5 6 dX2_init_128 rfl (by decide) (by decide) (fun c => absurd c (by decide)) (fun c => ?_)
  refine j_aload_n 1 dX2_init_131 rfl ?_
  refine j_getr (q := 57) dX2_init_132 fX2_50 (h.sh (by decide) sgC_55) rfl (h.rd rfl) ?_
  refine j_iload_n 0 dX2_init_135 rfl ?_
  refine c_new (ci := 1) (kc := 0) (ks := 0) dX2_init_136 rfl nwX2_48 h sgC_81 (by decide) ?_
  clear h M
  intro M h
  refine j_dup dX2_init_139 rfl ?_
  refine j_callIN (kc := 0) (ks := 0) (a := 0) (b := 0) (d' := d) (As := []) (o := 81) dX2_init_140 kX2_62 rfl (by omega) rfl rfl rfl (Nat.le_of_ble_eq_true rfl) (Nat.le_of_ble_eq_true rfl) (T_i_X1 h (by decide) sgC_81) (kk_ev (fun M h => ?_))
  refine c_aast (t := 1) 5 dX2_init_143 h (by decide) sgC_57 (fun _ => rfl) (by decide) sgC_81 rfl (by decide) (by decide) ?_
  clear h M
  intro M h
  refine j_iinc 0 6 (L' := [(1, .int 6), (0, .ref 55)]) dX2_init_144 rfl (by decide) (by decide) rfl ?_
  refine j_goto (tgt := 122) dX2_init_147 rfl ?_
  refine j_iload_n 0 dX2_init_122 rfl ?_
  refine j_aload_n 1 dX2_init_123 rfl ?_
  refine j_getr (q := 57) dX2_init_124 fX2_50 (h.sh (by decide) sgC_55) rfl (h.rd rfl) ?_
  refine j_alen dX2_init_127 (h.sh (by decide) sgC_57) (by decide) ?_
  refine j_icmp_geN (tgt := 150) 6 6 dX2_init_128 rfl (by decide) (by decide) (fun c => ?_) (fun c => absurd c (by decide))
  refine j_vret dX2_init_150 rfl ?_
  exact hQ _ _ ⟨rfl, h⟩
set_option maxRecDepth 20000 in
set_option maxHeartbeats 4000000 in
theorem T_i_X0_82 {d : Nat} {W : List (Nat × Nat × Nat)} {V : List (Nat × Nat × Int32)} {M : jk_M} (h : SL jGC 83 W V M) : J Fr_X0_init d 5 800 0 [(0, .ref 82), (1, .ref 1)] [] M (jk_ex none (fun M1 => SL jGC 88 ((82, 0, 1) :: (82, 5, 87) :: (82, 4, 86) :: (82, 3, 85) :: (82, 2, 84) :: (82, 1, 83) :: W) ((82, 6, 0) :: V) M1)) := by
  refine j_post (fun Q hQ => ?_)
  refine j_aload_n 0 dX0_init_0 rfl ?_
  refine j_objInit dX0_init_1 mX0_3 ob_init.1 ob_init.2 (Nat.le_of_ble_eq_true rfl) ?_
  refine j_aload_n 0 dX0_init_4 rfl ?_
  refine j_bipush 80 dX0_init_5 bp_80 ?_
  refine c_newI (kc := 4) (ks := 720) (N := 80) dX0_init_7 rfl rfl ac_int (by decide) (by decide) (by decide) h sgC_83 (by decide) ?_
  clear h M
  intro M h
  refine c_putrF dX0_init_9 fX0_9 rfl rfl h (by decide) sgC_82 rfl ?_
  clear h M
  intro M h
  refine j_aload_n 0 dX0_init_12 rfl ?_
  refine j_bipush 80 dX0_init_13 bp_80 ?_
  refine c_newI (kc := 3) (ks := 640) (N := 80) dX0_init_15 rfl rfl ac_int (by decide) (by decide) (by decide) h sgC_84 (by decide) ?_
  clear h M
  intro M h
  refine c_putrF dX0_init_17 fX0_15 rfl rfl h (by decide) sgC_82 rfl ?_
  clear h M
  intro M h
  refine j_aload_n 0 dX0_init_20 rfl ?_
  refine j_bipush 80 dX0_init_21 bp_80 ?_
  refine c_newI (kc := 2) (ks := 560) (N := 80) dX0_init_23 rfl rfl ac_int (by decide) (by decide) (by decide) h sgC_85 (by decide) ?_
  clear h M
  intro M h
  refine c_putrF dX0_init_25 fX0_18 rfl rfl h (by decide) sgC_82 rfl ?_
  clear h M
  intro M h
  refine j_aload_n 0 dX0_init_28 rfl ?_
  refine j_bipush 80 dX0_init_29 bp_80 ?_
  refine c_newI (kc := 1) (ks := 480) (N := 80) dX0_init_31 rfl rfl ac_int (by decide) (by decide) (by decide) h sgC_86 (by decide) ?_
  clear h M
  intro M h
  refine c_putrF dX0_init_33 fX0_21 rfl rfl h (by decide) sgC_82 rfl ?_
  clear h M
  intro M h
  refine j_aload_n 0 dX0_init_36 rfl ?_
  refine j_sipush 480 dX0_init_37 sp_480 ?_
  refine c_newI (kc := 0) (ks := 0) (N := 480) dX0_init_40 rfl rfl ac_int (by decide) (by decide) (by decide) h sgC_87 (by decide) ?_
  clear h M
  intro M h
  refine c_putrF dX0_init_42 fX0_24 rfl rfl h (by decide) sgC_82 rfl ?_
  clear h M
  intro M h
  refine j_aload_n 0 dX0_init_45 rfl ?_
  refine j_iconst 0 dX0_init_46 ic_0 ?_
  refine c_put dX0_init_47 fX0_27 h (by decide) sgC_82 rfl ?_
  clear h M
  intro M h
  refine j_aload_n 0 dX0_init_50 rfl ?_
  refine j_aload_n 1 dX0_init_51 rfl ?_
  refine c_putrF dX0_init_52 fX0_31 rfl rfl h (by decide) sgC_82 rfl ?_
  clear h M
  intro M h
  refine j_vret dX0_init_55 rfl ?_
  exact hQ _ _ ⟨rfl, h⟩
set_option maxRecDepth 20000 in
set_option maxHeartbeats 4000000 in
theorem T_i_X0_90 {d : Nat} {W : List (Nat × Nat × Nat)} {V : List (Nat × Nat × Int32)} {M : jk_M} (h : SL jGC 91 W V M) : J Fr_X0_init d 5 800 0 [(0, .ref 90), (1, .ref 55)] [] M (jk_ex none (fun M1 => SL jGC 96 ((90, 0, 55) :: (90, 5, 95) :: (90, 4, 94) :: (90, 3, 93) :: (90, 2, 92) :: (90, 1, 91) :: W) ((90, 6, 0) :: V) M1)) := by
  refine j_post (fun Q hQ => ?_)
  refine j_aload_n 0 dX0_init_0 rfl ?_
  refine j_objInit dX0_init_1 mX0_3 ob_init.1 ob_init.2 (Nat.le_of_ble_eq_true rfl) ?_
  refine j_aload_n 0 dX0_init_4 rfl ?_
  refine j_bipush 80 dX0_init_5 bp_80 ?_
  refine c_newI (kc := 4) (ks := 720) (N := 80) dX0_init_7 rfl rfl ac_int (by decide) (by decide) (by decide) h sgC_91 (by decide) ?_
  clear h M
  intro M h
  refine c_putrF dX0_init_9 fX0_9 rfl rfl h (by decide) sgC_90 rfl ?_
  clear h M
  intro M h
  refine j_aload_n 0 dX0_init_12 rfl ?_
  refine j_bipush 80 dX0_init_13 bp_80 ?_
  refine c_newI (kc := 3) (ks := 640) (N := 80) dX0_init_15 rfl rfl ac_int (by decide) (by decide) (by decide) h sgC_92 (by decide) ?_
  clear h M
  intro M h
  refine c_putrF dX0_init_17 fX0_15 rfl rfl h (by decide) sgC_90 rfl ?_
  clear h M
  intro M h
  refine j_aload_n 0 dX0_init_20 rfl ?_
  refine j_bipush 80 dX0_init_21 bp_80 ?_
  refine c_newI (kc := 2) (ks := 560) (N := 80) dX0_init_23 rfl rfl ac_int (by decide) (by decide) (by decide) h sgC_93 (by decide) ?_
  clear h M
  intro M h
  refine c_putrF dX0_init_25 fX0_18 rfl rfl h (by decide) sgC_90 rfl ?_
  clear h M
  intro M h
  refine j_aload_n 0 dX0_init_28 rfl ?_
  refine j_bipush 80 dX0_init_29 bp_80 ?_
  refine c_newI (kc := 1) (ks := 480) (N := 80) dX0_init_31 rfl rfl ac_int (by decide) (by decide) (by decide) h sgC_94 (by decide) ?_
  clear h M
  intro M h
  refine c_putrF dX0_init_33 fX0_21 rfl rfl h (by decide) sgC_90 rfl ?_
  clear h M
  intro M h
  refine j_aload_n 0 dX0_init_36 rfl ?_
  refine j_sipush 480 dX0_init_37 sp_480 ?_
  refine c_newI (kc := 0) (ks := 0) (N := 480) dX0_init_40 rfl rfl ac_int (by decide) (by decide) (by decide) h sgC_95 (by decide) ?_
  clear h M
  intro M h
  refine c_putrF dX0_init_42 fX0_24 rfl rfl h (by decide) sgC_90 rfl ?_
  clear h M
  intro M h
  refine j_aload_n 0 dX0_init_45 rfl ?_
  refine j_iconst 0 dX0_init_46 ic_0 ?_
  refine c_put dX0_init_47 fX0_27 h (by decide) sgC_90 rfl ?_
  clear h M
  intro M h
  refine j_aload_n 0 dX0_init_50 rfl ?_
  refine j_aload_n 1 dX0_init_51 rfl ?_
  refine c_putrF dX0_init_52 fX0_31 rfl rfl h (by decide) sgC_90 rfl ?_
  clear h M
  intro M h
  refine j_vret dX0_init_55 rfl ?_
  exact hQ _ _ ⟨rfl, h⟩
set_option maxRecDepth 20000 in
set_option maxHeartbeats 4000000 in
theorem T_i_X3_88 {d : Nat} {W : List (Nat × Nat × Nat)} {V : List (Nat × Nat × Int32)} {M : jk_M} (h : SL jGC 89 W V M) : J Fr_X3_init (d + 1) 7 815 0 [(0, .ref 88), (1, .ref 1), (2, .ref 55)] [] M (jk_ex none (fun M1 => SL jGC 96 ((88, 2, 90) :: (90, 0, 55) :: (90, 5, 95) :: (90, 4, 94) :: (90, 3, 93) :: (90, 2, 92) :: (90, 1, 91) :: (88, 1, 55) :: (88, 0, 1) :: (88, 3, 89) :: W) ((90, 6, 0) :: (88, 4, 0) :: V) M1)) := by
  refine j_post (fun Q hQ => ?_)
  refine j_aload_n 0 dX3_init_0 rfl ?_
  refine j_objInit dX3_init_1 mX3_3 ob_init.1 ob_init.2 (Nat.le_of_ble_eq_true rfl) ?_
  refine j_aload_n 0 dX3_init_4 rfl ?_
  refine j_bipush 8 dX3_init_5 bp_8 ?_
  refine c_newI (kc := 6) (ks := 807) (N := 8) dX3_init_7 rfl rfl ac_int (by decide) (by decide) (by decide) h sgC_89 (by decide) ?_
  clear h M
  intro M h
  refine c_putrF dX3_init_9 fX3_9 rfl rfl h (by decide) sgC_88 rfl ?_
  clear h M
  intro M h
  refine j_aload_n 0 dX3_init_12 rfl ?_
  refine j_iconst 0 dX3_init_13 ic_0 ?_
  refine c_put dX3_init_14 fX3_15 h (by decide) sgC_88 rfl ?_
  clear h M
  intro M h
  refine j_aload_n 0 dX3_init_17 rfl ?_
  refine j_aload_n 1 dX3_init_18 rfl ?_
  refine c_putrF dX3_init_19 fX3_19 rfl rfl h (by decide) sgC_88 rfl ?_
  clear h M
  intro M h
  refine j_aload_n 0 dX3_init_22 rfl ?_
  refine j_aload_n 2 dX3_init_23 rfl ?_
  refine c_putrF dX3_init_24 fX3_23 rfl rfl h (by decide) sgC_88 rfl ?_
  clear h M
  intro M h
  refine j_aload_n 0 dX3_init_27 rfl ?_
  refine c_new (ci := 0) (kc := 5) (ks := 800) dX3_init_28 rfl nwX3_26 h sgC_90 (by decide) ?_
  clear h M
  intro M h
  refine j_dup dX3_init_31 rfl ?_
  refine j_aload_n 2 dX3_init_32 rfl ?_
  refine j_callI (kc := 0) (ks := 0) (a := 5) (b := 800) (d' := d) (As := [.ref 55]) (o := 90) dX3_init_33 kX3_28 rfl (by omega) rfl rfl rfl (Nat.le_of_ble_eq_true rfl) (Nat.le_of_ble_eq_true rfl) (T_i_X0_90 h) (kk_ev (fun M h => ?_))
  refine c_putrF dX3_init_36 fX3_31 rfl rfl h (by decide) sgC_88 rfl ?_
  clear h M
  intro M h
  refine j_vret dX3_init_39 rfl ?_
  exact hQ _ _ ⟨rfl, h⟩
set_option maxRecDepth 20000 in
set_option maxHeartbeats 4000000 in
theorem T_i_X7_96 {d : Nat} {W : List (Nat × Nat × Nat)} {V : List (Nat × Nat × Int32)} {M : jk_M} (h : SL jGC 97 W V M) : J Fr_X7_init d 2 86 0 [(0, .ref 96), (1, .ref 1), (2, .ref 82)] [] M (jk_ex none (fun M1 => SL jGC 99 ((96, 1, 82) :: (96, 0, 1) :: (96, 3, 98) :: (96, 2, 97) :: W) ((96, 4, 0) :: V) M1)) := by
  refine j_post (fun Q hQ => ?_)
  refine j_aload_n 0 dX7_init_0 rfl ?_
  refine j_objInit dX7_init_1 mX7_3 ob_init.1 ob_init.2 (Nat.le_of_ble_eq_true rfl) ?_
  refine j_aload_n 0 dX7_init_4 rfl ?_
  refine j_bipush 80 dX7_init_5 bp_80 ?_
  refine c_newI (kc := 1) (ks := 6) (N := 80) dX7_init_7 rfl rfl ac_int (by decide) (by decide) (by decide) h sgC_97 (by decide) ?_
  clear h M
  intro M h
  refine c_putrF dX7_init_9 fX7_9 rfl rfl h (by decide) sgC_96 rfl ?_
  clear h M
  intro M h
  refine j_aload_n 0 dX7_init_12 rfl ?_
  refine j_bipush 6 dX7_init_13 bp_6 ?_
  refine c_newI (kc := 0) (ks := 0) (N := 6) dX7_init_15 rfl rfl ac_int (by decide) (by decide) (by decide) h sgC_98 (by decide) ?_
  clear h M
  intro M h
  refine c_putrF dX7_init_17 fX7_15 rfl rfl h (by decide) sgC_96 rfl ?_
  clear h M
  intro M h
  refine j_aload_n 0 dX7_init_20 rfl ?_
  refine j_iconst 0 dX7_init_21 ic_0 ?_
  refine c_put dX7_init_22 fX7_18 h (by decide) sgC_96 rfl ?_
  clear h M
  intro M h
  refine j_aload_n 0 dX7_init_25 rfl ?_
  refine j_aload_n 1 dX7_init_26 rfl ?_
  refine c_putrF dX7_init_27 fX7_22 rfl rfl h (by decide) sgC_96 rfl ?_
  clear h M
  intro M h
  refine j_aload_n 0 dX7_init_30 rfl ?_
  refine j_aload_n 2 dX7_init_31 rfl ?_
  refine c_putrF dX7_init_32 fX7_26 rfl rfl h (by decide) sgC_96 rfl ?_
  clear h M
  intro M h
  refine j_vret dX7_init_35 rfl ?_
  exact hQ _ _ ⟨rfl, h⟩
set_option maxRecDepth 20000 in
set_option maxHeartbeats 4000000 in
theorem T_i_X6_99 {d : Nat} {W : List (Nat × Nat × Nat)} {V : List (Nat × Nat × Int32)} {M : jk_M} (h : SL jGC 100 W V M) : J Fr_X6_init d 1 8 0 [(0, .ref 99), (1, .ref 1)] [] M (jk_ex none (fun M1 => SL jGC 101 ((99, 0, 1) :: (99, 1, 100) :: W) ((99, 2, 0) :: V) M1)) := by
  refine j_post (fun Q hQ => ?_)
  refine j_aload_n 0 dX6_init_0 rfl ?_
  refine j_objInit dX6_init_1 mX6_3 ob_init.1 ob_init.2 (Nat.le_of_ble_eq_true rfl) ?_
  refine j_aload_n 0 dX6_init_4 rfl ?_
  refine j_bipush 8 dX6_init_5 bp_8 ?_
  refine c_newI (kc := 0) (ks := 0) (N := 8) dX6_init_7 rfl rfl ac_int (by decide) (by decide) (by decide) h sgC_100 (by decide) ?_
  clear h M
  intro M h
  refine c_putrF dX6_init_9 fX6_9 rfl rfl h (by decide) sgC_99 rfl ?_
  clear h M
  intro M h
  refine j_aload_n 0 dX6_init_12 rfl ?_
  refine j_iconst 0 dX6_init_13 ic_0 ?_
  refine c_put dX6_init_14 fX6_15 h (by decide) sgC_99 rfl ?_
  clear h M
  intro M h
  refine j_aload_n 0 dX6_init_17 rfl ?_
  refine j_aload_n 1 dX6_init_18 rfl ?_
  refine c_putrF dX6_init_19 fX6_19 rfl rfl h (by decide) sgC_99 rfl ?_
  clear h M
  intro M h
  refine j_vret dX6_init_22 rfl ?_
  exact hQ _ _ ⟨rfl, h⟩
set_option maxRecDepth 20000 in
set_option maxHeartbeats 4000000 in
theorem T_i_X5_101 {d : Nat} {W : List (Nat × Nat × Nat)} {V : List (Nat × Nat × Int32)} {M : jk_M} (h : SL jGC 102 W V M) : J Fr_X5_init (d + 1) 3 167 0 [(0, .ref 101), (1, .ref 55)] [] M (jk_ex none (fun M1 => SL jGC 105 ((101, 0, 55) :: (101, 2, 103) :: (103, 3, 104) :: (101, 1, 102) :: W) ((101, 4, (-1)) :: (101, 3, 0) :: (103, 2, (-1)) :: (103, 1, 0) :: (103, 0, (-1)) :: V) M1)) := by
  refine j_post (fun Q hQ => ?_)
  refine j_aload_n 0 dX5_init_0 rfl ?_
  refine j_objInit dX5_init_1 mX5_3 ob_init.1 ob_init.2 (Nat.le_of_ble_eq_true rfl) ?_
  refine j_aload_n 0 dX5_init_4 rfl ?_
  refine j_iconst 3 dX5_init_5 ic_3 ?_
  refine c_newI (kc := 2) (ks := 164) (N := 3) dX5_init_6 rfl rfl ac_int (by decide) (by decide) (by decide) h sgC_102 (by decide) ?_
  clear h M
  intro M h
  refine c_putrF dX5_init_8 fX5_11 rfl rfl h (by decide) sgC_101 rfl ?_
  clear h M
  intro M h
  refine j_aload_n 0 dX5_init_11 rfl ?_
  refine c_new (ci := 8) (kc := 1) (ks := 160) dX5_init_12 rfl nwX5_15 h sgC_103 (by decide) ?_
  clear h M
  intro M h
  refine j_dup dX5_init_15 rfl ?_
  refine j_callIN (kc := 0) (ks := 0) (a := 1) (b := 160) (d' := d) (As := []) (o := 103) dX5_init_16 kX5_17 rfl (by omega) rfl rfl rfl (Nat.le_of_ble_eq_true rfl) (Nat.le_of_ble_eq_true rfl) (T_i_X8 h (by decide) sgC_103 sgC_104 (by decide)) (kk_ev (fun M h => ?_))
  refine c_putr dX5_init_19 fX5_18 h (by decide) sgC_101 rfl ?_
  clear h M
  intro M h
  refine j_aload_n 0 dX5_init_22 rfl ?_
  refine j_iconst 0 dX5_init_23 ic_0 ?_
  refine c_put dX5_init_24 fX5_22 h (by decide) sgC_101 rfl ?_
  clear h M
  intro M h
  refine j_aload_n 0 dX5_init_27 rfl ?_
  refine j_iconst (-1) dX5_init_28 ic_n1 ?_
  refine c_put dX5_init_29 fX5_26 h (by decide) sgC_101 rfl ?_
  clear h M
  intro M h
  refine j_aload_n 0 dX5_init_32 rfl ?_
  refine j_aload_n 1 dX5_init_33 rfl ?_
  refine c_putrF dX5_init_34 fX5_29 rfl rfl h (by decide) sgC_101 rfl ?_
  clear h M
  intro M h
  refine j_vret dX5_init_37 rfl ?_
  exact hQ _ _ ⟨rfl, h⟩
set_option maxRecDepth 20000 in
set_option maxHeartbeats 4000000 in
theorem T_i_X4_105 {d : Nat} {W : List (Nat × Nat × Nat)} {V : List (Nat × Nat × Int32)} {M : jk_M} (h : SL jGC 106 W V M) : J Fr_X4_init d 1 20 0 [(0, .ref 105)] [] M (jk_ex none (fun M1 => SL jGC 107 ((105, 4, 106) :: W) ((105, 3, 0) :: (105, 2, 0) :: (105, 1, 0) :: (105, 0, 0) :: V) M1)) := by
  refine j_post (fun Q hQ => ?_)
  refine j_aload_n 0 dX4_init_0 rfl ?_
  refine j_objInit dX4_init_1 mX4_3 ob_init.1 ob_init.2 (Nat.le_of_ble_eq_true rfl) ?_
  refine j_aload_n 0 dX4_init_4 rfl ?_
  refine j_iconst 0 dX4_init_5 ic_0 ?_
  refine c_put dX4_init_6 fX4_9 h (by decide) sgC_105 rfl ?_
  clear h M
  intro M h
  refine j_aload_n 0 dX4_init_9 rfl ?_
  refine j_iconst 0 dX4_init_10 ic_0 ?_
  refine c_put dX4_init_11 fX4_15 h (by decide) sgC_105 rfl ?_
  clear h M
  intro M h
  refine j_aload_n 0 dX4_init_14 rfl ?_
  refine j_iconst 0 dX4_init_15 ic_0 ?_
  refine c_put dX4_init_16 fX4_18 h (by decide) sgC_105 rfl ?_
  clear h M
  intro M h
  refine j_aload_n 0 dX4_init_19 rfl ?_
  refine j_iconst 0 dX4_init_20 ic_0 ?_
  refine c_put dX4_init_21 fX4_21 h (by decide) sgC_105 rfl ?_
  clear h M
  intro M h
  refine j_aload_n 0 dX4_init_24 rfl ?_
  refine j_bipush 20 dX4_init_25 bp_20 ?_
  refine c_newI (kc := 0) (ks := 0) (N := 20) dX4_init_27 rfl rfl ac_int (by decide) (by decide) (by decide) h sgC_106 (by decide) ?_
  clear h M
  intro M h
  refine c_putrF dX4_init_29 fX4_24 rfl rfl h (by decide) sgC_105 rfl ?_
  clear h M
  intro M h
  refine j_vret dX4_init_32 rfl ?_
  exact hQ _ _ ⟨rfl, h⟩
set_option maxRecDepth 20000 in
set_option maxHeartbeats 4000000 in
theorem T_i_X10_0 {d : Nat} {W : List (Nat × Nat × Nat)} {V : List (Nat × Nat × Int32)} {M : jk_M} (h : SL jGC 1 W V M) : J Fr_X10_init (d + 2) 124 3674 0 [(0, .ref 0)] [] M (jk_ex none (fun M1 => SL jGC 125 ((107, 7, 123) :: (123, 3, 124) :: (107, 6, 121) :: (121, 3, 122) :: (107, 5, 119) :: (119, 3, 120) :: (107, 4, 117) :: (117, 3, 118) :: (107, 3, 115) :: (115, 3, 116) :: (107, 2, 113) :: (113, 3, 114) :: (107, 1, 111) :: (111, 3, 112) :: (107, 0, 109) :: (109, 3, 110) :: (0, 10, 108) :: (0, 9, 107) :: (0, 8, 105) :: (105, 4, 106) :: (0, 7, 101) :: (101, 0, 55) :: (101, 2, 103) :: (103, 3, 104) :: (101, 1, 102) :: (0, 6, 99) :: (99, 0, 1) :: (99, 1, 100) :: (0, 5, 96) :: (96, 1, 82) :: (96, 0, 1) :: (96, 3, 98) :: (96, 2, 97) :: (0, 4, 88) :: (88, 2, 90) :: (90, 0, 55) :: (90, 5, 95) :: (90, 4, 94) :: (90, 3, 93) :: (90, 2, 92) :: (90, 1, 91) :: (88, 1, 55) :: (88, 0, 1) :: (88, 3, 89) :: (0, 3, 82) :: (82, 0, 1) :: (82, 5, 87) :: (82, 4, 86) :: (82, 3, 85) :: (82, 2, 84) :: (82, 1, 83) :: (0, 2, 55) :: (57, 5, 81) :: (57, 4, 80) :: (57, 3, 79) :: (57, 2, 78) :: (57, 1, 77) :: (57, 0, 76) :: (56, 15, 75) :: (56, 14, 74) :: (56, 13, 73) :: (56, 12, 72) :: (56, 11, 71) :: (56, 10, 70) :: (56, 9, 69) :: (56, 8, 68) :: (56, 7, 67) :: (56, 6, 66) :: (56, 5, 65) :: (56, 4, 64) :: (56, 3, 63) :: (56, 2, 62) :: (56, 1, 61) :: (56, 0, 60) :: (55, 13, 59) :: (55, 12, 58) :: (55, 11, 57) :: (55, 10, 56) :: (0, 1, 28) :: (30, 5, 54) :: (30, 4, 53) :: (30, 3, 52) :: (30, 2, 51) :: (30, 1, 50) :: (30, 0, 49) :: (29, 15, 48) :: (29, 14, 47) :: (29, 13, 46) :: (29, 12, 45) :: (29, 11, 44) :: (29, 10, 43) :: (29, 9, 42) :: (29, 8, 41) :: (29, 7, 40) :: (29, 6, 39) :: (29, 5, 38) :: (29, 4, 37) :: (29, 3, 36) :: (29, 2, 35) :: (29, 1, 34) :: (29, 0, 33) :: (28, 13, 32) :: (28, 12, 31) :: (28, 11, 30) :: (28, 10, 29) :: (0, 0, 1) :: (3, 5, 27) :: (3, 4, 26) :: (3, 3, 25) :: (3, 2, 24) :: (3, 1, 23) :: (3, 0, 22) :: (2, 15, 21) :: (2, 14, 20) :: (2, 13, 19) :: (2, 12, 18) :: (2, 11, 17) :: (2, 10, 16) :: (2, 9, 15) :: (2, 8, 14) :: (2, 7, 13) :: (2, 6, 12) :: (2, 5, 11) :: (2, 4, 10) :: (2, 3, 9) :: (2, 2, 8) :: (2, 1, 7) :: (2, 0, 6) :: (1, 13, 5) :: (1, 12, 4) :: (1, 11, 3) :: (1, 10, 2) :: W) ((123, 2, (-1)) :: (123, 1, 0) :: (123, 0, (-1)) :: (121, 2, (-1)) :: (121, 1, 0) :: (121, 0, (-1)) :: (119, 2, (-1)) :: (119, 1, 0) :: (119, 0, (-1)) :: (117, 2, (-1)) :: (117, 1, 0) :: (117, 0, (-1)) :: (115, 2, (-1)) :: (115, 1, 0) :: (115, 0, (-1)) :: (113, 2, (-1)) :: (113, 1, 0) :: (113, 0, (-1)) :: (111, 2, (-1)) :: (111, 1, 0) :: (111, 0, (-1)) :: (109, 2, (-1)) :: (109, 1, 0) :: (109, 0, (-1)) :: (0, 12, (-1)) :: (0, 11, 0) :: (105, 3, 0) :: (105, 2, 0) :: (105, 1, 0) :: (105, 0, 0) :: (101, 4, (-1)) :: (101, 3, 0) :: (103, 2, (-1)) :: (103, 1, 0) :: (103, 0, (-1)) :: (99, 2, 0) :: (96, 4, 0) :: (90, 6, 0) :: (88, 4, 0) :: (82, 6, 0) :: (81, 3, 0) :: (81, 2, 1) :: (81, 1, 1) :: (81, 0, 0) :: (80, 3, 0) :: (80, 2, 1) :: (80, 1, 1) :: (80, 0, 0) :: (79, 3, 0) :: (79, 2, 1) :: (79, 1, 1) :: (79, 0, 0) :: (78, 3, 0) :: (78, 2, 1) :: (78, 1, 1) :: (78, 0, 0) :: (77, 3, 0) :: (77, 2, 1) :: (77, 1, 1) :: (77, 0, 0) :: (76, 3, 0) :: (76, 2, 1) :: (76, 1, 1) :: (76, 0, 0) :: (75, 3, 1) :: (75, 2, 0) :: (75, 1, 0) :: (75, 0, 0) :: (74, 3, 1) :: (74, 2, 0) :: (74, 1, 0) :: (74, 0, 0) :: (73, 3, 1) :: (73, 2, 0) :: (73, 1, 0) :: (73, 0, 0) :: (72, 3, 1) :: (72, 2, 0) :: (72, 1, 0) :: (72, 0, 0) :: (71, 3, 1) :: (71, 2, 0) :: (71, 1, 0) :: (71, 0, 0) :: (70, 3, 1) :: (70, 2, 0) :: (70, 1, 0) :: (70, 0, 0) :: (69, 3, 1) :: (69, 2, 0) :: (69, 1, 0) :: (69, 0, 0) :: (68, 3, 1) :: (68, 2, 0) :: (68, 1, 0) :: (68, 0, 0) :: (67, 3, 1) :: (67, 2, 0) :: (67, 1, 0) :: (67, 0, 0) :: (66, 3, 1) :: (66, 2, 0) :: (66, 1, 0) :: (66, 0, 0) :: (65, 3, 1) :: (65, 2, 0) :: (65, 1, 0) :: (65, 0, 0) :: (64, 3, 1) :: (64, 2, 0) :: (64, 1, 0) :: (64, 0, 0) :: (63, 3, 1) :: (63, 2, 0) :: (63, 1, 0) :: (63, 0, 0) :: (62, 3, 1) :: (62, 2, 0) :: (62, 1, 0) :: (62, 0, 0) :: (61, 3, 1) :: (61, 2, 0) :: (61, 1, 0) :: (61, 0, 0) :: (60, 3, 1) :: (60, 2, 0) :: (60, 1, 0) :: (60, 0, 0) :: (55, 9, 0) :: (55, 8, 0) :: (55, 7, 0) :: (55, 6, (-1)) :: (55, 5, 0) :: (55, 4, 1) :: (55, 3, 0) :: (55, 2, 6) :: (55, 1, 50) :: (55, 0, 4) :: (54, 3, 0) :: (54, 2, 1) :: (54, 1, 1) :: (54, 0, 0) :: (53, 3, 0) :: (53, 2, 1) :: (53, 1, 1) :: (53, 0, 0) :: (52, 3, 0) :: (52, 2, 1) :: (52, 1, 1) :: (52, 0, 0) :: (51, 3, 0) :: (51, 2, 1) :: (51, 1, 1) :: (51, 0, 0) :: (50, 3, 0) :: (50, 2, 1) :: (50, 1, 1) :: (50, 0, 0) :: (49, 3, 0) :: (49, 2, 1) :: (49, 1, 1) :: (49, 0, 0) :: (48, 3, 1) :: (48, 2, 0) :: (48, 1, 0) :: (48, 0, 0) :: (47, 3, 1) :: (47, 2, 0) :: (47, 1, 0) :: (47, 0, 0) :: (46, 3, 1) :: (46, 2, 0) :: (46, 1, 0) :: (46, 0, 0) :: (45, 3, 1) :: (45, 2, 0) :: (45, 1, 0) :: (45, 0, 0) :: (44, 3, 1) :: (44, 2, 0) :: (44, 1, 0) :: (44, 0, 0) :: (43, 3, 1) :: (43, 2, 0) :: (43, 1, 0) :: (43, 0, 0) :: (42, 3, 1) :: (42, 2, 0) :: (42, 1, 0) :: (42, 0, 0) :: (41, 3, 1) :: (41, 2, 0) :: (41, 1, 0) :: (41, 0, 0) :: (40, 3, 1) :: (40, 2, 0) :: (40, 1, 0) :: (40, 0, 0) :: (39, 3, 1) :: (39, 2, 0) :: (39, 1, 0) :: (39, 0, 0) :: (38, 3, 1) :: (38, 2, 0) :: (38, 1, 0) :: (38, 0, 0) :: (37, 3, 1) :: (37, 2, 0) :: (37, 1, 0) :: (37, 0, 0) :: (36, 3, 1) :: (36, 2, 0) :: (36, 1, 0) :: (36, 0, 0) :: (35, 3, 1) :: (35, 2, 0) :: (35, 1, 0) :: (35, 0, 0) :: (34, 3, 1) :: (34, 2, 0) :: (34, 1, 0) :: (34, 0, 0) :: (33, 3, 1) :: (33, 2, 0) :: (33, 1, 0) :: (33, 0, 0) :: (28, 9, 0) :: (28, 8, 0) :: (28, 7, 0) :: (28, 6, (-1)) :: (28, 5, 0) :: (28, 4, 1) :: (28, 3, 0) :: (28, 2, 6) :: (28, 1, 50) :: (28, 0, 4) :: (27, 3, 0) :: (27, 2, 1) :: (27, 1, 1) :: (27, 0, 0) :: (26, 3, 0) :: (26, 2, 1) :: (26, 1, 1) :: (26, 0, 0) :: (25, 3, 0) :: (25, 2, 1) :: (25, 1, 1) :: (25, 0, 0) :: (24, 3, 0) :: (24, 2, 1) :: (24, 1, 1) :: (24, 0, 0) :: (23, 3, 0) :: (23, 2, 1) :: (23, 1, 1) :: (23, 0, 0) :: (22, 3, 0) :: (22, 2, 1) :: (22, 1, 1) :: (22, 0, 0) :: (21, 3, 1) :: (21, 2, 0) :: (21, 1, 0) :: (21, 0, 0) :: (20, 3, 1) :: (20, 2, 0) :: (20, 1, 0) :: (20, 0, 0) :: (19, 3, 1) :: (19, 2, 0) :: (19, 1, 0) :: (19, 0, 0) :: (18, 3, 1) :: (18, 2, 0) :: (18, 1, 0) :: (18, 0, 0) :: (17, 3, 1) :: (17, 2, 0) :: (17, 1, 0) :: (17, 0, 0) :: (16, 3, 1) :: (16, 2, 0) :: (16, 1, 0) :: (16, 0, 0) :: (15, 3, 1) :: (15, 2, 0) :: (15, 1, 0) :: (15, 0, 0) :: (14, 3, 1) :: (14, 2, 0) :: (14, 1, 0) :: (14, 0, 0) :: (13, 3, 1) :: (13, 2, 0) :: (13, 1, 0) :: (13, 0, 0) :: (12, 3, 1) :: (12, 2, 0) :: (12, 1, 0) :: (12, 0, 0) :: (11, 3, 1) :: (11, 2, 0) :: (11, 1, 0) :: (11, 0, 0) :: (10, 3, 1) :: (10, 2, 0) :: (10, 1, 0) :: (10, 0, 0) :: (9, 3, 1) :: (9, 2, 0) :: (9, 1, 0) :: (9, 0, 0) :: (8, 3, 1) :: (8, 2, 0) :: (8, 1, 0) :: (8, 0, 0) :: (7, 3, 1) :: (7, 2, 0) :: (7, 1, 0) :: (7, 0, 0) :: (6, 3, 1) :: (6, 2, 0) :: (6, 1, 0) :: (6, 0, 0) :: (1, 9, 0) :: (1, 8, 0) :: (1, 7, 0) :: (1, 6, (-1)) :: (1, 5, 0) :: (1, 4, 1) :: (1, 3, 0) :: (1, 2, 6) :: (1, 1, 50) :: (1, 0, 4) :: V) M1)) := by
  refine j_post (fun Q hQ => ?_)
  refine j_aload_n 0 dX10_init_0 rfl ?_
  refine j_objInit dX10_init_1 mX10_1 ob_init.1 ob_init.2 (Nat.le_of_ble_eq_true rfl) ?_
  refine j_aload_n 0 dX10_init_4 rfl ?_
  refine c_new (ci := 2) (kc := 123) (ks := 3660) dX10_init_5 rfl nwX10_7 h sgC_1 (by decide) ?_
  clear h M
  intro M h
  refine j_dup dX10_init_8 rfl ?_
  refine j_callI (kc := 97) (ks := 3534) (a := 26) (b := 126) (d' := (d + 1)) (As := []) (o := 1) dX10_init_9 kX10_9 rfl (by omega) rfl rfl rfl (Nat.le_of_ble_eq_true rfl) (Nat.le_of_ble_eq_true rfl) (T_i_X2_1 h) (kk_ev (fun M h => ?_))
  refine c_putrF dX10_init_12 fX10_10 rfl rfl h (by decide) sgC_0 rfl ?_
  clear h M
  intro M h
  refine j_aload_n 0 dX10_init_15 rfl ?_
  refine c_new (ci := 2) (kc := 96) (ks := 3520) dX10_init_16 rfl nwX10_7 h sgC_28 (by decide) ?_
  clear h M
  intro M h
  refine j_dup dX10_init_19 rfl ?_
  refine j_callI (kc := 70) (ks := 3394) (a := 26) (b := 126) (d' := (d + 1)) (As := []) (o := 28) dX10_init_20 kX10_9 rfl (by omega) rfl rfl rfl (Nat.le_of_ble_eq_true rfl) (Nat.le_of_ble_eq_true rfl) (T_i_X2_28 h) (kk_ev (fun M h => ?_))
  refine c_putrF dX10_init_23 fX10_16 rfl rfl h (by decide) sgC_0 rfl ?_
  clear h M
  intro M h
  refine j_aload_n 0 dX10_init_26 rfl ?_
  refine c_new (ci := 2) (kc := 69) (ks := 3380) dX10_init_27 rfl nwX10_7 h sgC_55 (by decide) ?_
  clear h M
  intro M h
  refine j_dup dX10_init_30 rfl ?_
  refine j_callI (kc := 43) (ks := 3254) (a := 26) (b := 126) (d' := (d + 1)) (As := []) (o := 55) dX10_init_31 kX10_9 rfl (by omega) rfl rfl rfl (Nat.le_of_ble_eq_true rfl) (Nat.le_of_ble_eq_true rfl) (T_i_X2_55 h) (kk_ev (fun M h => ?_))
  refine c_putrF dX10_init_34 fX10_19 rfl rfl h (by decide) sgC_0 rfl ?_
  clear h M
  intro M h
  refine j_aload_n 0 dX10_init_37 rfl ?_
  refine c_new (ci := 0) (kc := 42) (ks := 3247) dX10_init_38 rfl nwX10_22 h sgC_82 (by decide) ?_
  clear h M
  intro M h
  refine j_dup dX10_init_41 rfl ?_
  refine j_aload_n 0 dX10_init_42 rfl ?_
  refine j_getr (q := 1) dX10_init_43 fX10_10 (h.sh (by decide) sgC_0) rfl (h.rd rfl) ?_
  refine j_callI (kc := 37) (ks := 2447) (a := 5) (b := 800) (d' := d) (As := [.ref 1]) (o := 82) dX10_init_46 kX10_24 rfl (by omega) rfl rfl rfl (Nat.le_of_ble_eq_true rfl) (Nat.le_of_ble_eq_true rfl) (T_i_X0_82 h) (kk_ev (fun M h => ?_))
  refine c_putrF dX10_init_49 fX10_27 rfl rfl h (by decide) sgC_0 rfl ?_
  clear h M
  intro M h
  refine j_aload_n 0 dX10_init_52 rfl ?_
  refine c_new (ci := 3) (kc := 36) (ks := 2442) dX10_init_53 rfl nwX10_31 h sgC_88 (by decide) ?_
  clear h M
  intro M h
  refine j_dup dX10_init_56 rfl ?_
  refine j_aload_n 0 dX10_init_57 rfl ?_
  refine j_getr (q := 1) dX10_init_58 fX10_10 (h.sh (by decide) sgC_0) rfl (h.rd rfl) ?_
  refine j_aload_n 0 dX10_init_61 rfl ?_
  refine j_getr (q := 55) dX10_init_62 fX10_19 (h.sh (by decide) sgC_0) rfl (h.rd rfl) ?_
  refine j_callI (kc := 29) (ks := 1627) (a := 7) (b := 815) (d' := (d + 1)) (As := [.ref 1, .ref 55]) (o := 88) dX10_init_65 kX10_33 rfl (by omega) rfl rfl rfl (Nat.le_of_ble_eq_true rfl) (Nat.le_of_ble_eq_true rfl) (T_i_X3_88 h) (kk_ev (fun M h => ?_))
  refine c_putrF dX10_init_68 fX10_36 rfl rfl h (by decide) sgC_0 rfl ?_
  clear h M
  intro M h
  refine j_aload_n 0 dX10_init_71 rfl ?_
  refine c_new (ci := 7) (kc := 28) (ks := 1622) dX10_init_72 rfl nwX10_40 h sgC_96 (by decide) ?_
  clear h M
  intro M h
  refine j_dup dX10_init_75 rfl ?_
  refine j_aload_n 0 dX10_init_76 rfl ?_
  refine j_getr (q := 1) dX10_init_77 fX10_10 (h.sh (by decide) sgC_0) rfl (h.rd rfl) ?_
  refine j_aload_n 0 dX10_init_80 rfl ?_
  refine j_getr (q := 82) dX10_init_81 fX10_27 (h.sh (by decide) sgC_0) rfl (h.rd rfl) ?_
  refine j_callI (kc := 26) (ks := 1536) (a := 2) (b := 86) (d' := d) (As := [.ref 1, .ref 82]) (o := 96) dX10_init_84 kX10_42 rfl (by omega) rfl rfl rfl (Nat.le_of_ble_eq_true rfl) (Nat.le_of_ble_eq_true rfl) (T_i_X7_96 h) (kk_ev (fun M h => ?_))
  refine c_putrF dX10_init_87 fX10_45 rfl rfl h (by decide) sgC_0 rfl ?_
  clear h M
  intro M h
  refine j_aload_n 0 dX10_init_90 rfl ?_
  refine c_new (ci := 6) (kc := 25) (ks := 1533) dX10_init_91 rfl nwX10_49 h sgC_99 (by decide) ?_
  clear h M
  intro M h
  refine j_dup dX10_init_94 rfl ?_
  refine j_aload_n 0 dX10_init_95 rfl ?_
  refine j_getr (q := 1) dX10_init_96 fX10_10 (h.sh (by decide) sgC_0) rfl (h.rd rfl) ?_
  refine j_callI (kc := 24) (ks := 1525) (a := 1) (b := 8) (d' := d) (As := [.ref 1]) (o := 99) dX10_init_99 kX10_51 rfl (by omega) rfl rfl rfl (Nat.le_of_ble_eq_true rfl) (Nat.le_of_ble_eq_true rfl) (T_i_X6_99 h) (kk_ev (fun M h => ?_))
  refine c_putrF dX10_init_102 fX10_52 rfl rfl h (by decide) sgC_0 rfl ?_
  clear h M
  intro M h
  refine j_aload_n 0 dX10_init_105 rfl ?_
  refine c_new (ci := 5) (kc := 23) (ks := 1520) dX10_init_106 rfl nwX10_56 h sgC_101 (by decide) ?_
  clear h M
  intro M h
  refine j_dup dX10_init_109 rfl ?_
  refine j_aload_n 0 dX10_init_110 rfl ?_
  refine j_getr (q := 55) dX10_init_111 fX10_19 (h.sh (by decide) sgC_0) rfl (h.rd rfl) ?_
  refine j_callI (kc := 20) (ks := 1353) (a := 3) (b := 167) (d' := (d + 1)) (As := [.ref 55]) (o := 101) dX10_init_114 kX10_58 rfl (by omega) rfl rfl rfl (Nat.le_of_ble_eq_true rfl) (Nat.le_of_ble_eq_true rfl) (T_i_X5_101 h) (kk_ev (fun M h => ?_))
  refine c_putrF dX10_init_117 fX10_59 rfl rfl h (by decide) sgC_0 rfl ?_
  clear h M
  intro M h
  refine j_aload_n 0 dX10_init_120 rfl ?_
  refine c_new (ci := 4) (kc := 19) (ks := 1348) dX10_init_121 rfl nwX10_63 h sgC_105 (by decide) ?_
  clear h M
  intro M h
  refine j_dup dX10_init_124 rfl ?_
  refine j_callIN (kc := 18) (ks := 1328) (a := 1) (b := 20) (d' := d) (As := []) (o := 105) dX10_init_125 kX10_65 rfl (by omega) rfl rfl rfl (Nat.le_of_ble_eq_true rfl) (Nat.le_of_ble_eq_true rfl) (T_i_X4_105 h) (kk_ev (fun M h => ?_))
  refine c_putrF dX10_init_128 fX10_66 rfl rfl h (by decide) sgC_0 rfl ?_
  clear h M
  intro M h
  refine j_aload_n 0 dX10_init_131 rfl ?_
  refine j_bipush 8 dX10_init_132 bp_8 ?_
  refine c_anew (t := 2) (kc := 17) (ks := 1320) (N := 8) dX10_init_134 rfl clX10_70 ao_8 (fun _ => rfl) (by decide) (by decide) (by decide) h sgC_107 (by decide) ?_
  clear h M
  intro M h
  refine c_putrF dX10_init_137 fX10_72 rfl rfl h (by decide) sgC_0 rfl ?_
  clear h M
  intro M h
  refine j_aload_n 0 dX10_init_140 rfl ?_
  refine j_bipush 8 dX10_init_141 bp_8 ?_
  refine c_newI (kc := 16) (ks := 1312) (N := 8) dX10_init_143 rfl rfl ac_int (by decide) (by decide) (by decide) h sgC_108 (by decide) ?_
  clear h M
  intro M h
  refine c_putrF dX10_init_145 fX10_76 rfl rfl h (by decide) sgC_0 rfl ?_
  clear h M
  intro M h
  refine j_aload_n 0 dX10_init_148 rfl ?_
  refine j_iconst 0 dX10_init_149 ic_0 ?_
  refine c_putz dX10_init_150 fX10_80 h (by decide) sgC_0 rfl (by decide) ?_
  clear h M
  intro M h
  refine j_aload_n 0 dX10_init_153 rfl ?_
  refine j_iconst (-1) dX10_init_154 ic_n1 ?_
  refine c_put dX10_init_155 fX10_84 h (by decide) sgC_0 rfl ?_
  clear h M
  intro M h
  refine j_iconst 0 dX10_init_158 ic_0 ?_
  refine j_istore_n (L' := [(1, .int 0), (0, .ref 0)]) dX10_init_159 (by decide) rfl ?_
  refine j_iload_n 0 dX10_init_160 rfl ?_
  refine j_aload_n 1 dX10_init_161 rfl ?_
  refine j_getr (q := 107) dX10_init_162 fX10_72 (h.sh (by decide) sgC_0) rfl (h.rd rfl) ?_
  refine j_alen dX10_init_165 (h.sh (by decide) sgC_107) (by decide) ?_
  refine j_icmp_geN (tgt := 188) 0 8 dX10_init_166 rfl (by decide) (by decide) (fun c => absurd c (by decide)) (fun c => ?_)
  refine j_aload_n 1 dX10_init_169 rfl ?_
  refine j_getr (q := 107) dX10_init_170 fX10_72 (h.sh (by decide) sgC_0) rfl (h.rd rfl) ?_
  refine j_iload_n 0 dX10_init_173 rfl ?_
  refine c_new (ci := 8) (kc := 15) (ks := 1308) dX10_init_174 rfl nwX10_70 h sgC_109 (by decide) ?_
  clear h M
  intro M h
  refine j_dup dX10_init_177 rfl ?_
  refine j_callIN (kc := 14) (ks := 1148) (a := 1) (b := 160) (d' := d) (As := []) (o := 109) dX10_init_178 kX10_88 rfl (by omega) rfl rfl rfl (Nat.le_of_ble_eq_true rfl) (Nat.le_of_ble_eq_true rfl) (T_i_X8 h (by decide) sgC_109 sgC_110 (by decide)) (kk_ev (fun M h => ?_))
  refine c_aast (t := 2) 0 dX10_init_181 h (by decide) sgC_107 (fun _ => rfl) (by decide) sgC_109 rfl (by decide) (by decide) ?_
  clear h M
  intro M h
  refine j_iinc 0 1 (L' := [(1, .int 1), (0, .ref 0)]) dX10_init_182 rfl (by decide) (by decide) rfl ?_
  refine j_goto (tgt := 160) dX10_init_185 rfl ?_
  refine j_iload_n 0 dX10_init_160 rfl ?_
  refine j_aload_n 1 dX10_init_161 rfl ?_
  refine j_getr (q := 107) dX10_init_162 fX10_72 (h.sh (by decide) sgC_0) rfl (h.rd rfl) ?_
  refine j_alen dX10_init_165 (h.sh (by decide) sgC_107) (by decide) ?_
  refine j_icmp_geN (tgt := 188) 1 8 dX10_init_166 rfl (by decide) (by decide) (fun c => absurd c (by decide)) (fun c => ?_)
  refine j_aload_n 1 dX10_init_169 rfl ?_
  refine j_getr (q := 107) dX10_init_170 fX10_72 (h.sh (by decide) sgC_0) rfl (h.rd rfl) ?_
  refine j_iload_n 0 dX10_init_173 rfl ?_
  refine c_new (ci := 8) (kc := 13) (ks := 1144) dX10_init_174 rfl nwX10_70 h sgC_111 (by decide) ?_
  clear h M
  intro M h
  refine j_dup dX10_init_177 rfl ?_
  refine j_callIN (kc := 12) (ks := 984) (a := 1) (b := 160) (d' := d) (As := []) (o := 111) dX10_init_178 kX10_88 rfl (by omega) rfl rfl rfl (Nat.le_of_ble_eq_true rfl) (Nat.le_of_ble_eq_true rfl) (T_i_X8 h (by decide) sgC_111 sgC_112 (by decide)) (kk_ev (fun M h => ?_))
  refine c_aast (t := 2) 1 dX10_init_181 h (by decide) sgC_107 (fun _ => rfl) (by decide) sgC_111 rfl (by decide) (by decide) ?_
  clear h M
  intro M h
  refine j_iinc 0 2 (L' := [(1, .int 2), (0, .ref 0)]) dX10_init_182 rfl (by decide) (by decide) rfl ?_
  refine j_goto (tgt := 160) dX10_init_185 rfl ?_
  refine j_iload_n 0 dX10_init_160 rfl ?_
  refine j_aload_n 1 dX10_init_161 rfl ?_
  refine j_getr (q := 107) dX10_init_162 fX10_72 (h.sh (by decide) sgC_0) rfl (h.rd rfl) ?_
  refine j_alen dX10_init_165 (h.sh (by decide) sgC_107) (by decide) ?_
  refine j_icmp_geN (tgt := 188) 2 8 dX10_init_166 rfl (by decide) (by decide) (fun c => absurd c (by decide)) (fun c => ?_)
  refine j_aload_n 1 dX10_init_169 rfl ?_
  refine j_getr (q := 107) dX10_init_170 fX10_72 (h.sh (by decide) sgC_0) rfl (h.rd rfl) ?_
  refine j_iload_n 0 dX10_init_173 rfl ?_
  refine c_new (ci := 8) (kc := 11) (ks := 980) dX10_init_174 rfl nwX10_70 h sgC_113 (by decide) ?_
  clear h M
  intro M h
  refine j_dup dX10_init_177 rfl ?_
  refine j_callIN (kc := 10) (ks := 820) (a := 1) (b := 160) (d' := d) (As := []) (o := 113) dX10_init_178 kX10_88 rfl (by omega) rfl rfl rfl (Nat.le_of_ble_eq_true rfl) (Nat.le_of_ble_eq_true rfl) (T_i_X8 h (by decide) sgC_113 sgC_114 (by decide)) (kk_ev (fun M h => ?_))
  refine c_aast (t := 2) 2 dX10_init_181 h (by decide) sgC_107 (fun _ => rfl) (by decide) sgC_113 rfl (by decide) (by decide) ?_
  clear h M
  intro M h
  refine j_iinc 0 3 (L' := [(1, .int 3), (0, .ref 0)]) dX10_init_182 rfl (by decide) (by decide) rfl ?_
  refine j_goto (tgt := 160) dX10_init_185 rfl ?_
  refine j_iload_n 0 dX10_init_160 rfl ?_
  refine j_aload_n 1 dX10_init_161 rfl ?_
  refine j_getr (q := 107) dX10_init_162 fX10_72 (h.sh (by decide) sgC_0) rfl (h.rd rfl) ?_
  refine j_alen dX10_init_165 (h.sh (by decide) sgC_107) (by decide) ?_
  refine j_icmp_geN (tgt := 188) 3 8 dX10_init_166 rfl (by decide) (by decide) (fun c => absurd c (by decide)) (fun c => ?_)
  refine j_aload_n 1 dX10_init_169 rfl ?_
  refine j_getr (q := 107) dX10_init_170 fX10_72 (h.sh (by decide) sgC_0) rfl (h.rd rfl) ?_
  refine j_iload_n 0 dX10_init_173 rfl ?_
  refine c_new (ci := 8) (kc := 9) (ks := 816) dX10_init_174 rfl nwX10_70 h sgC_115 (by decide) ?_
  clear h M
  intro M h
  refine j_dup dX10_init_177 rfl ?_
  refine j_callIN (kc := 8) (ks := 656) (a := 1) (b := 160) (d' := d) (As := []) (o := 115) dX10_init_178 kX10_88 rfl (by omega) rfl rfl rfl (Nat.le_of_ble_eq_true rfl) (Nat.le_of_ble_eq_true rfl) (T_i_X8 h (by decide) sgC_115 sgC_116 (by decide)) (kk_ev (fun M h => ?_))
  refine c_aast (t := 2) 3 dX10_init_181 h (by decide) sgC_107 (fun _ => rfl) (by decide) sgC_115 rfl (by decide) (by decide) ?_
  clear h M
  intro M h
  refine j_iinc 0 4 (L' := [(1, .int 4), (0, .ref 0)]) dX10_init_182 rfl (by decide) (by decide) rfl ?_
  refine j_goto (tgt := 160) dX10_init_185 rfl ?_
  refine j_iload_n 0 dX10_init_160 rfl ?_
  refine j_aload_n 1 dX10_init_161 rfl ?_
  refine j_getr (q := 107) dX10_init_162 fX10_72 (h.sh (by decide) sgC_0) rfl (h.rd rfl) ?_
  refine j_alen dX10_init_165 (h.sh (by decide) sgC_107) (by decide) ?_
  refine j_icmp_geN (tgt := 188) 4 8 dX10_init_166 rfl (by decide) (by decide) (fun c => absurd c (by decide)) (fun c => ?_)
  refine j_aload_n 1 dX10_init_169 rfl ?_
  refine j_getr (q := 107) dX10_init_170 fX10_72 (h.sh (by decide) sgC_0) rfl (h.rd rfl) ?_
  refine j_iload_n 0 dX10_init_173 rfl ?_
  refine c_new (ci := 8) (kc := 7) (ks := 652) dX10_init_174 rfl nwX10_70 h sgC_117 (by decide) ?_
  clear h M
  intro M h
  refine j_dup dX10_init_177 rfl ?_
  refine j_callIN (kc := 6) (ks := 492) (a := 1) (b := 160) (d' := d) (As := []) (o := 117) dX10_init_178 kX10_88 rfl (by omega) rfl rfl rfl (Nat.le_of_ble_eq_true rfl) (Nat.le_of_ble_eq_true rfl) (T_i_X8 h (by decide) sgC_117 sgC_118 (by decide)) (kk_ev (fun M h => ?_))
  refine c_aast (t := 2) 4 dX10_init_181 h (by decide) sgC_107 (fun _ => rfl) (by decide) sgC_117 rfl (by decide) (by decide) ?_
  clear h M
  intro M h
  refine j_iinc 0 5 (L' := [(1, .int 5), (0, .ref 0)]) dX10_init_182 rfl (by decide) (by decide) rfl ?_
  refine j_goto (tgt := 160) dX10_init_185 rfl ?_
  refine j_iload_n 0 dX10_init_160 rfl ?_
  refine j_aload_n 1 dX10_init_161 rfl ?_
  refine j_getr (q := 107) dX10_init_162 fX10_72 (h.sh (by decide) sgC_0) rfl (h.rd rfl) ?_
  refine j_alen dX10_init_165 (h.sh (by decide) sgC_107) (by decide) ?_
  refine j_icmp_geN (tgt := 188) 5 8 dX10_init_166 rfl (by decide) (by decide) (fun c => absurd c (by decide)) (fun c => ?_)
  refine j_aload_n 1 dX10_init_169 rfl ?_
  refine j_getr (q := 107) dX10_init_170 fX10_72 (h.sh (by decide) sgC_0) rfl (h.rd rfl) ?_
  refine j_iload_n 0 dX10_init_173 rfl ?_
  refine c_new (ci := 8) (kc := 5) (ks := 488) dX10_init_174 rfl nwX10_70 h sgC_119 (by decide) ?_
  clear h M
  intro M h
  refine j_dup dX10_init_177 rfl ?_
  refine j_callIN (kc := 4) (ks := 328) (a := 1) (b := 160) (d' := d) (As := []) (o := 119) dX10_init_178 kX10_88 rfl (by omega) rfl rfl rfl (Nat.le_of_ble_eq_true rfl) (Nat.le_of_ble_eq_true rfl) (T_i_X8 h (by decide) sgC_119 sgC_120 (by decide)) (kk_ev (fun M h => ?_))
  refine c_aast (t := 2) 5 dX10_init_181 h (by decide) sgC_107 (fun _ => rfl) (by decide) sgC_119 rfl (by decide) (by decide) ?_
  clear h M
  intro M h
  refine j_iinc 0 6 (L' := [(1, .int 6), (0, .ref 0)]) dX10_init_182 rfl (by decide) (by decide) rfl ?_
  refine j_goto (tgt := 160) dX10_init_185 rfl ?_
  refine j_iload_n 0 dX10_init_160 rfl ?_
  refine j_aload_n 1 dX10_init_161 rfl ?_
  refine j_getr (q := 107) dX10_init_162 fX10_72 (h.sh (by decide) sgC_0) rfl (h.rd rfl) ?_
  refine j_alen dX10_init_165 (h.sh (by decide) sgC_107) (by decide) ?_
  refine j_icmp_geN (tgt := 188) 6 8 dX10_init_166 rfl (by decide) (by decide) (fun c => absurd c (by decide)) (fun c => ?_)
  refine j_aload_n 1 dX10_init_169 rfl ?_
  refine j_getr (q := 107) dX10_init_170 fX10_72 (h.sh (by decide) sgC_0) rfl (h.rd rfl) ?_
  refine j_iload_n 0 dX10_init_173 rfl ?_
  refine c_new (ci := 8) (kc := 3) (ks := 324) dX10_init_174 rfl nwX10_70 h sgC_121 (by decide) ?_
  clear h M
  intro M h
  refine j_dup dX10_init_177 rfl ?_
  refine j_callIN (kc := 2) (ks := 164) (a := 1) (b := 160) (d' := d) (As := []) (o := 121) dX10_init_178 kX10_88 rfl (by omega) rfl rfl rfl (Nat.le_of_ble_eq_true rfl) (Nat.le_of_ble_eq_true rfl) (T_i_X8 h (by decide) sgC_121 sgC_122 (by decide)) (kk_ev (fun M h => ?_))
  refine c_aast (t := 2) 6 dX10_init_181 h (by decide) sgC_107 (fun _ => rfl) (by decide) sgC_121 rfl (by decide) (by decide) ?_
  clear h M
  intro M h
  refine j_iinc 0 7 (L' := [(1, .int 7), (0, .ref 0)]) dX10_init_182 rfl (by decide) (by decide) rfl ?_
  refine j_goto (tgt := 160) dX10_init_185 rfl ?_
  refine j_iload_n 0 dX10_init_160 rfl ?_
  refine j_aload_n 1 dX10_init_161 rfl ?_
  refine j_getr (q := 107) dX10_init_162 fX10_72 (h.sh (by decide) sgC_0) rfl (h.rd rfl) ?_
  refine j_alen dX10_init_165 (h.sh (by decide) sgC_107) (by decide) ?_
  refine j_icmp_geN (tgt := 188) 7 8 dX10_init_166 rfl (by decide) (by decide) (fun c => absurd c (by decide)) (fun c => ?_)
  refine j_aload_n 1 dX10_init_169 rfl ?_
  refine j_getr (q := 107) dX10_init_170 fX10_72 (h.sh (by decide) sgC_0) rfl (h.rd rfl) ?_
  refine j_iload_n 0 dX10_init_173 rfl ?_
  refine c_new (ci := 8) (kc := 1) (ks := 160) dX10_init_174 rfl nwX10_70 h sgC_123 (by decide) ?_
  clear h M
  intro M h
  refine j_dup dX10_init_177 rfl ?_
  refine j_callIN (kc := 0) (ks := 0) (a := 1) (b := 160) (d' := d) (As := []) (o := 123) dX10_init_178 kX10_88 rfl (by omega) rfl rfl rfl (Nat.le_of_ble_eq_true rfl) (Nat.le_of_ble_eq_true rfl) (T_i_X8 h (by decide) sgC_123 sgC_124 (by decide)) (kk_ev (fun M h => ?_))
  refine c_aast (t := 2) 7 dX10_init_181 h (by decide) sgC_107 (fun _ => rfl) (by decide) sgC_123 rfl (by decide) (by decide) ?_
  clear h M
  intro M h
  refine j_iinc 0 8 (L' := [(1, .int 8), (0, .ref 0)]) dX10_init_182 rfl (by decide) (by decide) rfl ?_
  refine j_goto (tgt := 160) dX10_init_185 rfl ?_
  refine j_iload_n 0 dX10_init_160 rfl ?_
  refine j_aload_n 1 dX10_init_161 rfl ?_
  refine j_getr (q := 107) dX10_init_162 fX10_72 (h.sh (by decide) sgC_0) rfl (h.rd rfl) ?_
  refine j_alen dX10_init_165 (h.sh (by decide) sgC_107) (by decide) ?_
  refine j_icmp_geN (tgt := 188) 8 8 dX10_init_166 rfl (by decide) (by decide) (fun c => ?_) (fun c => absurd c (by decide))
  refine j_vret dX10_init_188 rfl ?_
  exact hQ _ _ ⟨rfl, h⟩
set_option maxRecDepth 20000 in
set_option maxHeartbeats 4000000 in
theorem T_i_X11_0 {d : Nat} {W : List (Nat × Nat × Nat)} {V : List (Nat × Nat × Int32)} {M : jk_M} (h : SL jGM 1 W V M) : J Fr_X11_init d 31 2186 0 [(0, .ref 0)] [] M (jk_ex none (fun M1 => SL jGM 32 ((0, 48, 31) :: (0, 46, 30) :: (0, 45, 29) :: (0, 44, 28) :: (0, 43, 27) :: (0, 42, 26) :: (0, 38, 25) :: (0, 37, 24) :: (0, 36, 23) :: (0, 35, 22) :: (0, 29, 21) :: (0, 28, 20) :: (0, 27, 19) :: (0, 26, 18) :: (0, 25, 17) :: (0, 24, 16) :: (0, 23, 15) :: (0, 22, 14) :: (0, 21, 13) :: (0, 20, 12) :: (0, 19, 11) :: (0, 18, 10) :: (0, 17, 9) :: (0, 16, 8) :: (0, 15, 7) :: (0, 14, 6) :: (0, 13, 5) :: (0, 12, 4) :: (0, 11, 3) :: (0, 10, 2) :: (0, 9, 1) :: W) ((0, 40, (-1)) :: (20, 9, 1) :: (20, 8, 1) :: (20, 7, 1) :: (20, 6, 3) :: (20, 5, 2) :: (20, 4, 1) :: (20, 3, 1) :: (20, 2, 2) :: (20, 1, 3) :: (20, 0, 1) :: (19, 72, 0) :: (19, 71, 32) :: (19, 70, 101) :: (19, 69, 116) :: (19, 68, 117) :: (19, 67, 110) :: (19, 66, 105) :: (19, 65, 109) :: (19, 64, 0) :: (19, 63, 32) :: (19, 62, 116) :: (19, 61, 117) :: (19, 60, 104) :: (19, 59, 115) :: (19, 58, 0) :: (19, 57, 32) :: (19, 56, 110) :: (19, 55, 101) :: (19, 54, 112) :: (19, 53, 111) :: (19, 52, 0) :: (19, 51, 32) :: (19, 50, 101) :: (19, 49, 99) :: (19, 48, 105) :: (19, 47, 118) :: (19, 46, 101) :: (19, 45, 100) :: (19, 44, 0) :: (19, 43, 32) :: (19, 42, 114) :: (19, 41, 117) :: (19, 40, 111) :: (19, 39, 98) :: (19, 38, 104) :: (19, 37, 103) :: (19, 36, 105) :: (19, 35, 101) :: (19, 34, 110) :: (19, 33, 0) :: (19, 32, 32) :: (19, 31, 108) :: (19, 30, 101) :: (19, 29, 110) :: (19, 28, 110) :: (19, 27, 97) :: (19, 26, 104) :: (19, 25, 99) :: (19, 24, 0) :: (19, 23, 32) :: (19, 22, 114) :: (19, 21, 101) :: (19, 20, 119) :: (19, 19, 111) :: (19, 18, 112) :: (19, 17, 0) :: (19, 16, 32) :: (19, 15, 120) :: (19, 14, 111) :: (19, 13, 98) :: (19, 12, 0) :: (19, 11, 32) :: (19, 10, 103) :: (19, 9, 110) :: (19, 8, 105) :: (19, 7, 104) :: (19, 6, 116) :: (19, 5, 0) :: (19, 4, 32) :: (19, 3, 101) :: (19, 2, 100) :: (19, 1, 105) :: (19, 0, 115) :: (12, 1, (-1)) :: (12, 0, 0) :: (0, 8, (-1)) :: (0, 7, 1) :: (0, 5, 6) :: (0, 4, 50) :: (0, 3, 4) :: V) M1)) := by
  refine j_post (fun Q hQ => ?_)
  refine j_aload_n 0 dX11_init_0 rfl ?_
  refine j_objInit dX11_init_1 mX11_1 ob_init.1 ob_init.2 (Nat.le_of_ble_eq_true rfl) ?_
  refine j_aload_n 0 dX11_init_4 rfl ?_
  refine j_iconst 4 dX11_init_5 ic_4 ?_
  refine c_put dX11_init_6 fX11_7 h (by decide) sgM_0 rfl ?_
  clear h M
  intro M h
  refine j_aload_n 0 dX11_init_9 rfl ?_
  refine j_bipush 50 dX11_init_10 bp_50 ?_
  refine c_put dX11_init_12 fX11_13 h (by decide) sgM_0 rfl ?_
  clear h M
  intro M h
  refine j_aload_n 0 dX11_init_15 rfl ?_
  refine j_bipush 6 dX11_init_16 bp_6 ?_
  refine c_put dX11_init_18 fX11_16 h (by decide) sgM_0 rfl ?_
  clear h M
  intro M h
  refine j_aload_n 0 dX11_init_21 rfl ?_
  refine j_iconst 1 dX11_init_22 ic_1 ?_
  refine c_put dX11_init_23 fX11_19 h (by decide) sgM_0 rfl ?_
  clear h M
  intro M h
  refine j_aload_n 0 dX11_init_26 rfl ?_
  refine j_iconst (-1) dX11_init_27 ic_n1 ?_
  refine c_put dX11_init_28 fX11_22 h (by decide) sgM_0 rfl ?_
  clear h M
  intro M h
  refine j_aload_n 0 dX11_init_31 rfl ?_
  refine j_bipush 8 dX11_init_32 bp_8 ?_
  refine c_newI (kc := 30) (ks := 2178) (N := 8) dX11_init_34 rfl rfl ac_int (by decide) (by decide) (by decide) h sgM_1 (by decide) ?_
  clear h M
  intro M h
  refine c_putrF dX11_init_36 fX11_25 rfl rfl h (by decide) sgM_0 rfl ?_
  clear h M
  intro M h
  refine j_aload_n 0 dX11_init_39 rfl ?_
  refine j_bipush 16 dX11_init_40 bp_16 ?_
  refine c_newI (kc := 29) (ks := 2162) (N := 16) dX11_init_42 rfl rfl ac_int (by decide) (by decide) (by decide) h sgM_2 (by decide) ?_
  clear h M
  intro M h
  refine c_putrF dX11_init_44 fX11_29 rfl rfl h (by decide) sgM_0 rfl ?_
  clear h M
  intro M h
  refine j_aload_n 0 dX11_init_47 rfl ?_
  refine j_bipush 16 dX11_init_48 bp_16 ?_
  refine c_newI (kc := 28) (ks := 2146) (N := 16) dX11_init_50 rfl rfl ac_int (by decide) (by decide) (by decide) h sgM_3 (by decide) ?_
  clear h M
  intro M h
  refine c_putrF dX11_init_52 fX11_32 rfl rfl h (by decide) sgM_0 rfl ?_
  clear h M
  intro M h
  refine j_aload_n 0 dX11_init_55 rfl ?_
  refine j_bipush 16 dX11_init_56 bp_16 ?_
  refine c_newI (kc := 27) (ks := 2130) (N := 16) dX11_init_58 rfl rfl ac_int (by decide) (by decide) (by decide) h sgM_4 (by decide) ?_
  clear h M
  intro M h
  refine c_putrF dX11_init_60 fX11_35 rfl rfl h (by decide) sgM_0 rfl ?_
  clear h M
  intro M h
  refine j_aload_n 0 dX11_init_63 rfl ?_
  refine j_bipush 16 dX11_init_64 bp_16 ?_
  refine c_newI (kc := 26) (ks := 2114) (N := 16) dX11_init_66 rfl rfl ac_int (by decide) (by decide) (by decide) h sgM_5 (by decide) ?_
  clear h M
  intro M h
  refine c_putrF dX11_init_68 fX11_38 rfl rfl h (by decide) sgM_0 rfl ?_
  clear h M
  intro M h
  refine j_aload_n 0 dX11_init_71 rfl ?_
  refine j_bipush 8 dX11_init_72 bp_8 ?_
  refine c_newI (kc := 25) (ks := 2106) (N := 8) dX11_init_74 rfl rfl ac_int (by decide) (by decide) (by decide) h sgM_6 (by decide) ?_
  clear h M
  intro M h
  refine c_putrF dX11_init_76 fX11_41 rfl rfl h (by decide) sgM_0 rfl ?_
  clear h M
  intro M h
  refine j_aload_n 0 dX11_init_79 rfl ?_
  refine j_bipush 8 dX11_init_80 bp_8 ?_
  refine c_newI (kc := 24) (ks := 2098) (N := 8) dX11_init_82 rfl rfl ac_int (by decide) (by decide) (by decide) h sgM_7 (by decide) ?_
  clear h M
  intro M h
  refine c_putrF dX11_init_84 fX11_44 rfl rfl h (by decide) sgM_0 rfl ?_
  clear h M
  intro M h
  refine j_aload_n 0 dX11_init_87 rfl ?_
  refine j_bipush 6 dX11_init_88 bp_6 ?_
  refine c_newI (kc := 23) (ks := 2092) (N := 6) dX11_init_90 rfl rfl ac_int (by decide) (by decide) (by decide) h sgM_8 (by decide) ?_
  clear h M
  intro M h
  refine c_putrF dX11_init_92 fX11_47 rfl rfl h (by decide) sgM_0 rfl ?_
  clear h M
  intro M h
  refine j_aload_n 0 dX11_init_95 rfl ?_
  refine j_bipush 6 dX11_init_96 bp_6 ?_
  refine c_newI (kc := 22) (ks := 2086) (N := 6) dX11_init_98 rfl rfl ac_int (by decide) (by decide) (by decide) h sgM_9 (by decide) ?_
  clear h M
  intro M h
  refine c_putrF dX11_init_100 fX11_50 rfl rfl h (by decide) sgM_0 rfl ?_
  clear h M
  intro M h
  refine j_aload_n 0 dX11_init_103 rfl ?_
  refine j_bipush 6 dX11_init_104 bp_6 ?_
  refine c_newI (kc := 21) (ks := 2080) (N := 6) dX11_init_106 rfl rfl ac_int (by decide) (by decide) (by decide) h sgM_10 (by decide) ?_
  clear h M
  intro M h
  refine c_putrF dX11_init_108 fX11_53 rfl rfl h (by decide) sgM_0 rfl ?_
  clear h M
  intro M h
  refine j_aload_n 0 dX11_init_111 rfl ?_
  refine j_bipush 6 dX11_init_112 bp_6 ?_
  refine c_newI (kc := 20) (ks := 2074) (N := 6) dX11_init_114 rfl rfl ac_int (by decide) (by decide) (by decide) h sgM_11 (by decide) ?_
  clear h M
  intro M h
  refine c_putrF dX11_init_116 fX11_56 rfl rfl h (by decide) sgM_0 rfl ?_
  clear h M
  intro M h
  refine j_aload_n 0 dX11_init_119 rfl ?_
  refine j_iconst 2 dX11_init_120 ic_2 ?_
  refine c_newI (kc := 19) (ks := 2072) (N := 2) dX11_init_121 rfl rfl ac_int (by decide) (by decide) (by decide) h sgM_12 (by decide) ?_
  clear h M
  intro M h
  refine j_dup dX11_init_123 rfl ?_
  refine j_iconst 0 dX11_init_124 ic_0 ?_
  refine j_iconst 0 dX11_init_125 ic_0 ?_
  refine c_iast 0 dX11_init_126 h (by decide) sgM_12 (by decide) (by decide) ?_
  clear h M
  intro M h
  refine j_dup dX11_init_127 rfl ?_
  refine j_iconst 1 dX11_init_128 ic_1 ?_
  refine j_iconst (-1) dX11_init_129 ic_n1 ?_
  refine c_iast 1 dX11_init_130 h (by decide) sgM_12 (by decide) (by decide) ?_
  clear h M
  intro M h
  refine c_putrF dX11_init_131 fX11_59 rfl rfl h (by decide) sgM_0 rfl ?_
  clear h M
  intro M h
  refine j_aload_n 0 dX11_init_134 rfl ?_
  refine j_bipush 8 dX11_init_135 bp_8 ?_
  refine c_newI (kc := 18) (ks := 2064) (N := 8) dX11_init_137 rfl rfl ac_int (by decide) (by decide) (by decide) h sgM_13 (by decide) ?_
  clear h M
  intro M h
  refine c_putrF dX11_init_139 fX11_62 rfl rfl h (by decide) sgM_0 rfl ?_
  clear h M
  intro M h
  refine j_aload_n 0 dX11_init_142 rfl ?_
  refine j_bipush 8 dX11_init_143 bp_8 ?_
  refine c_newI (kc := 17) (ks := 2056) (N := 8) dX11_init_145 rfl rfl ac_int (by decide) (by decide) (by decide) h sgM_14 (by decide) ?_
  clear h M
  intro M h
  refine c_putrF dX11_init_147 fX11_65 rfl rfl h (by decide) sgM_0 rfl ?_
  clear h M
  intro M h
  refine j_aload_n 0 dX11_init_150 rfl ?_
  refine j_bipush 8 dX11_init_151 bp_8 ?_
  refine c_newI (kc := 16) (ks := 2048) (N := 8) dX11_init_153 rfl rfl ac_int (by decide) (by decide) (by decide) h sgM_15 (by decide) ?_
  clear h M
  intro M h
  refine c_putrF dX11_init_155 fX11_68 rfl rfl h (by decide) sgM_0 rfl ?_
  clear h M
  intro M h
  refine j_aload_n 0 dX11_init_158 rfl ?_
  refine j_bipush 8 dX11_init_159 bp_8 ?_
  refine c_newI (kc := 15) (ks := 2040) (N := 8) dX11_init_161 rfl rfl ac_int (by decide) (by decide) (by decide) h sgM_16 (by decide) ?_
  clear h M
  intro M h
  refine c_putrF dX11_init_163 fX11_71 rfl rfl h (by decide) sgM_0 rfl ?_
  clear h M
  intro M h
  refine j_aload_n 0 dX11_init_166 rfl ?_
  refine j_sipush 1280 dX11_init_167 sp_1280 ?_
  refine c_newL (kc := 14) (ks := 760) (N := 1280) dX11_init_170 rfl rfl ac_long (by decide) (by decide) (by decide) h sgM_17 (by decide) ?_
  clear h M
  intro M h
  refine c_putrF dX11_init_172 fX11_74 rfl rfl h (by decide) sgM_0 rfl ?_
  clear h M
  intro M h
  refine j_aload_n 0 dX11_init_175 rfl ?_
  refine j_sipush 160 dX11_init_176 sp_160 ?_
  refine c_newL (kc := 13) (ks := 600) (N := 160) dX11_init_179 rfl rfl ac_long (by decide) (by decide) (by decide) h sgM_18 (by decide) ?_
  clear h M
  intro M h
  refine c_putrF dX11_init_181 fX11_78 rfl rfl h (by decide) sgM_0 rfl ?_
  clear h M
  intro M h
  refine j_aload_n 0 dX11_init_184 rfl ?_
  refine j_bipush 73 dX11_init_185 bp_73 ?_
  refine c_newI (kc := 12) (ks := 527) (N := 73) dX11_init_187 rfl rfl ac_int (by decide) (by decide) (by decide) h sgM_19 (by decide) ?_
  clear h M
  intro M h
  refine j_dup dX11_init_189 rfl ?_
  refine j_iconst 0 dX11_init_190 ic_0 ?_
  refine j_bipush 115 dX11_init_191 bp_115 ?_
  refine c_iast 0 dX11_init_193 h (by decide) sgM_19 (by decide) (by decide) ?_
  clear h M
  intro M h
  refine j_dup dX11_init_194 rfl ?_
  refine j_iconst 1 dX11_init_195 ic_1 ?_
  refine j_bipush 105 dX11_init_196 bp_105 ?_
  refine c_iast 1 dX11_init_198 h (by decide) sgM_19 (by decide) (by decide) ?_
  clear h M
  intro M h
  refine j_dup dX11_init_199 rfl ?_
  refine j_iconst 2 dX11_init_200 ic_2 ?_
  refine j_bipush 100 dX11_init_201 bp_100 ?_
  refine c_iast 2 dX11_init_203 h (by decide) sgM_19 (by decide) (by decide) ?_
  clear h M
  intro M h
  refine j_dup dX11_init_204 rfl ?_
  refine j_iconst 3 dX11_init_205 ic_3 ?_
  refine j_bipush 101 dX11_init_206 bp_101 ?_
  refine c_iast 3 dX11_init_208 h (by decide) sgM_19 (by decide) (by decide) ?_
  clear h M
  intro M h
  refine j_dup dX11_init_209 rfl ?_
  refine j_iconst 4 dX11_init_210 ic_4 ?_
  refine j_bipush 32 dX11_init_211 bp_32 ?_
  refine c_iast 4 dX11_init_213 h (by decide) sgM_19 (by decide) (by decide) ?_
  clear h M
  intro M h
  refine j_dup dX11_init_214 rfl ?_
  refine j_iconst 5 dX11_init_215 ic_5 ?_
  refine j_iconst 0 dX11_init_216 ic_0 ?_
  refine c_iast 5 dX11_init_217 h (by decide) sgM_19 (by decide) (by decide) ?_
  clear h M
  intro M h
  refine j_dup dX11_init_218 rfl ?_
  refine j_bipush 6 dX11_init_219 bp_6 ?_
  refine j_bipush 116 dX11_init_221 bp_116 ?_
  refine c_iast 6 dX11_init_223 h (by decide) sgM_19 (by decide) (by decide) ?_
  clear h M
  intro M h
  refine j_dup dX11_init_224 rfl ?_
  refine j_bipush 7 dX11_init_225 bp_7 ?_
  refine j_bipush 104 dX11_init_227 bp_104 ?_
  refine c_iast 7 dX11_init_229 h (by decide) sgM_19 (by decide) (by decide) ?_
  clear h M
  intro M h
  refine j_dup dX11_init_230 rfl ?_
  refine j_bipush 8 dX11_init_231 bp_8 ?_
  refine j_bipush 105 dX11_init_233 bp_105 ?_
  refine c_iast 8 dX11_init_235 h (by decide) sgM_19 (by decide) (by decide) ?_
  clear h M
  intro M h
  refine j_dup dX11_init_236 rfl ?_
  refine j_bipush 9 dX11_init_237 bp_9 ?_
  refine j_bipush 110 dX11_init_239 bp_110 ?_
  refine c_iast 9 dX11_init_241 h (by decide) sgM_19 (by decide) (by decide) ?_
  clear h M
  intro M h
  refine j_dup dX11_init_242 rfl ?_
  refine j_bipush 10 dX11_init_243 bp_10 ?_
  refine j_bipush 103 dX11_init_245 bp_103 ?_
  refine c_iast 10 dX11_init_247 h (by decide) sgM_19 (by decide) (by decide) ?_
  clear h M
  intro M h
  refine j_dup dX11_init_248 rfl ?_
  refine j_bipush 11 dX11_init_249 bp_11 ?_
  refine j_bipush 32 dX11_init_251 bp_32 ?_
  refine c_iast 11 dX11_init_253 h (by decide) sgM_19 (by decide) (by decide) ?_
  clear h M
  intro M h
  refine j_dup dX11_init_254 rfl ?_
  refine j_bipush 12 dX11_init_255 bp_12 ?_
  refine j_iconst 0 dX11_init_257 ic_0 ?_
  refine c_iast 12 dX11_init_258 h (by decide) sgM_19 (by decide) (by decide) ?_
  clear h M
  intro M h
  refine j_dup dX11_init_259 rfl ?_
  refine j_bipush 13 dX11_init_260 bp_13 ?_
  refine j_bipush 98 dX11_init_262 bp_98 ?_
  refine c_iast 13 dX11_init_264 h (by decide) sgM_19 (by decide) (by decide) ?_
  clear h M
  intro M h
  refine j_dup dX11_init_265 rfl ?_
  refine j_bipush 14 dX11_init_266 bp_14 ?_
  refine j_bipush 111 dX11_init_268 bp_111 ?_
  refine c_iast 14 dX11_init_270 h (by decide) sgM_19 (by decide) (by decide) ?_
  clear h M
  intro M h
  refine j_dup dX11_init_271 rfl ?_
  refine j_bipush 15 dX11_init_272 bp_15 ?_
  refine j_bipush 120 dX11_init_274 bp_120 ?_
  refine c_iast 15 dX11_init_276 h (by decide) sgM_19 (by decide) (by decide) ?_
  clear h M
  intro M h
  refine j_dup dX11_init_277 rfl ?_
  refine j_bipush 16 dX11_init_278 bp_16 ?_
  refine j_bipush 32 dX11_init_280 bp_32 ?_
  refine c_iast 16 dX11_init_282 h (by decide) sgM_19 (by decide) (by decide) ?_
  clear h M
  intro M h
  refine j_dup dX11_init_283 rfl ?_
  refine j_bipush 17 dX11_init_284 bp_17 ?_
  refine j_iconst 0 dX11_init_286 ic_0 ?_
  refine c_iast 17 dX11_init_287 h (by decide) sgM_19 (by decide) (by decide) ?_
  clear h M
  intro M h
  refine j_dup dX11_init_288 rfl ?_
  refine j_bipush 18 dX11_init_289 bp_18 ?_
  refine j_bipush 112 dX11_init_291 bp_112 ?_
  refine c_iast 18 dX11_init_293 h (by decide) sgM_19 (by decide) (by decide) ?_
  clear h M
  intro M h
  refine j_dup dX11_init_294 rfl ?_
  refine j_bipush 19 dX11_init_295 bp_19 ?_
  refine j_bipush 111 dX11_init_297 bp_111 ?_
  refine c_iast 19 dX11_init_299 h (by decide) sgM_19 (by decide) (by decide) ?_
  clear h M
  intro M h
  refine j_dup dX11_init_300 rfl ?_
  refine j_bipush 20 dX11_init_301 bp_20 ?_
  refine j_bipush 119 dX11_init_303 bp_119 ?_
  refine c_iast 20 dX11_init_305 h (by decide) sgM_19 (by decide) (by decide) ?_
  clear h M
  intro M h
  refine j_dup dX11_init_306 rfl ?_
  refine j_bipush 21 dX11_init_307 bp_21 ?_
  refine j_bipush 101 dX11_init_309 bp_101 ?_
  refine c_iast 21 dX11_init_311 h (by decide) sgM_19 (by decide) (by decide) ?_
  clear h M
  intro M h
  refine j_dup dX11_init_312 rfl ?_
  refine j_bipush 22 dX11_init_313 bp_22 ?_
  refine j_bipush 114 dX11_init_315 bp_114 ?_
  refine c_iast 22 dX11_init_317 h (by decide) sgM_19 (by decide) (by decide) ?_
  clear h M
  intro M h
  refine j_dup dX11_init_318 rfl ?_
  refine j_bipush 23 dX11_init_319 bp_23 ?_
  refine j_bipush 32 dX11_init_321 bp_32 ?_
  refine c_iast 23 dX11_init_323 h (by decide) sgM_19 (by decide) (by decide) ?_
  clear h M
  intro M h
  refine j_dup dX11_init_324 rfl ?_
  refine j_bipush 24 dX11_init_325 bp_24 ?_
  refine j_iconst 0 dX11_init_327 ic_0 ?_
  refine c_iast 24 dX11_init_328 h (by decide) sgM_19 (by decide) (by decide) ?_
  clear h M
  intro M h
  refine j_dup dX11_init_329 rfl ?_
  refine j_bipush 25 dX11_init_330 bp_25 ?_
  refine j_bipush 99 dX11_init_332 bp_99 ?_
  refine c_iast 25 dX11_init_334 h (by decide) sgM_19 (by decide) (by decide) ?_
  clear h M
  intro M h
  refine j_dup dX11_init_335 rfl ?_
  refine j_bipush 26 dX11_init_336 bp_26 ?_
  refine j_bipush 104 dX11_init_338 bp_104 ?_
  refine c_iast 26 dX11_init_340 h (by decide) sgM_19 (by decide) (by decide) ?_
  clear h M
  intro M h
  refine j_dup dX11_init_341 rfl ?_
  refine j_bipush 27 dX11_init_342 bp_27 ?_
  refine j_bipush 97 dX11_init_344 bp_97 ?_
  refine c_iast 27 dX11_init_346 h (by decide) sgM_19 (by decide) (by decide) ?_
  clear h M
  intro M h
  refine j_dup dX11_init_347 rfl ?_
  refine j_bipush 28 dX11_init_348 bp_28 ?_
  refine j_bipush 110 dX11_init_350 bp_110 ?_
  refine c_iast 28 dX11_init_352 h (by decide) sgM_19 (by decide) (by decide) ?_
  clear h M
  intro M h
  refine j_dup dX11_init_353 rfl ?_
  refine j_bipush 29 dX11_init_354 bp_29 ?_
  refine j_bipush 110 dX11_init_356 bp_110 ?_
  refine c_iast 29 dX11_init_358 h (by decide) sgM_19 (by decide) (by decide) ?_
  clear h M
  intro M h
  refine j_dup dX11_init_359 rfl ?_
  refine j_bipush 30 dX11_init_360 bp_30 ?_
  refine j_bipush 101 dX11_init_362 bp_101 ?_
  refine c_iast 30 dX11_init_364 h (by decide) sgM_19 (by decide) (by decide) ?_
  clear h M
  intro M h
  refine j_dup dX11_init_365 rfl ?_
  refine j_bipush 31 dX11_init_366 bp_31 ?_
  refine j_bipush 108 dX11_init_368 bp_108 ?_
  refine c_iast 31 dX11_init_370 h (by decide) sgM_19 (by decide) (by decide) ?_
  clear h M
  intro M h
  refine j_dup dX11_init_371 rfl ?_
  refine j_bipush 32 dX11_init_372 bp_32 ?_
  refine j_bipush 32 dX11_init_374 bp_32 ?_
  refine c_iast 32 dX11_init_376 h (by decide) sgM_19 (by decide) (by decide) ?_
  clear h M
  intro M h
  refine j_dup dX11_init_377 rfl ?_
  refine j_bipush 33 dX11_init_378 bp_33 ?_
  refine j_iconst 0 dX11_init_380 ic_0 ?_
  refine c_iast 33 dX11_init_381 h (by decide) sgM_19 (by decide) (by decide) ?_
  clear h M
  intro M h
  refine j_dup dX11_init_382 rfl ?_
  refine j_bipush 34 dX11_init_383 bp_34 ?_
  refine j_bipush 110 dX11_init_385 bp_110 ?_
  refine c_iast 34 dX11_init_387 h (by decide) sgM_19 (by decide) (by decide) ?_
  clear h M
  intro M h
  refine j_dup dX11_init_388 rfl ?_
  refine j_bipush 35 dX11_init_389 bp_35 ?_
  refine j_bipush 101 dX11_init_391 bp_101 ?_
  refine c_iast 35 dX11_init_393 h (by decide) sgM_19 (by decide) (by decide) ?_
  clear h M
  intro M h
  refine j_dup dX11_init_394 rfl ?_
  refine j_bipush 36 dX11_init_395 bp_36 ?_
  refine j_bipush 105 dX11_init_397 bp_105 ?_
  refine c_iast 36 dX11_init_399 h (by decide) sgM_19 (by decide) (by decide) ?_
  clear h M
  intro M h
  refine j_dup dX11_init_400 rfl ?_
  refine j_bipush 37 dX11_init_401 bp_37 ?_
  refine j_bipush 103 dX11_init_403 bp_103 ?_
  refine c_iast 37 dX11_init_405 h (by decide) sgM_19 (by decide) (by decide) ?_
  clear h M
  intro M h
  refine j_dup dX11_init_406 rfl ?_
  refine j_bipush 38 dX11_init_407 bp_38 ?_
  refine j_bipush 104 dX11_init_409 bp_104 ?_
  refine c_iast 38 dX11_init_411 h (by decide) sgM_19 (by decide) (by decide) ?_
  clear h M
  intro M h
  refine j_dup dX11_init_412 rfl ?_
  refine j_bipush 39 dX11_init_413 bp_39 ?_
  refine j_bipush 98 dX11_init_415 bp_98 ?_
  refine c_iast 39 dX11_init_417 h (by decide) sgM_19 (by decide) (by decide) ?_
  clear h M
  intro M h
  refine j_dup dX11_init_418 rfl ?_
  refine j_bipush 40 dX11_init_419 bp_40 ?_
  refine j_bipush 111 dX11_init_421 bp_111 ?_
  refine c_iast 40 dX11_init_423 h (by decide) sgM_19 (by decide) (by decide) ?_
  clear h M
  intro M h
  refine j_dup dX11_init_424 rfl ?_
  refine j_bipush 41 dX11_init_425 bp_41 ?_
  refine j_bipush 117 dX11_init_427 bp_117 ?_
  refine c_iast 41 dX11_init_429 h (by decide) sgM_19 (by decide) (by decide) ?_
  clear h M
  intro M h
  refine j_dup dX11_init_430 rfl ?_
  refine j_bipush 42 dX11_init_431 bp_42 ?_
  refine j_bipush 114 dX11_init_433 bp_114 ?_
  refine c_iast 42 dX11_init_435 h (by decide) sgM_19 (by decide) (by decide) ?_
  clear h M
  intro M h
  refine j_dup dX11_init_436 rfl ?_
  refine j_bipush 43 dX11_init_437 bp_43 ?_
  refine j_bipush 32 dX11_init_439 bp_32 ?_
  refine c_iast 43 dX11_init_441 h (by decide) sgM_19 (by decide) (by decide) ?_
  clear h M
  intro M h
  refine j_dup dX11_init_442 rfl ?_
  refine j_bipush 44 dX11_init_443 bp_44 ?_
  refine j_iconst 0 dX11_init_445 ic_0 ?_
  refine c_iast 44 dX11_init_446 h (by decide) sgM_19 (by decide) (by decide) ?_
  clear h M
  intro M h
  refine j_dup dX11_init_447 rfl ?_
  refine j_bipush 45 dX11_init_448 bp_45 ?_
  refine j_bipush 100 dX11_init_450 bp_100 ?_
  refine c_iast 45 dX11_init_452 h (by decide) sgM_19 (by decide) (by decide) ?_
  clear h M
  intro M h
  refine j_dup dX11_init_453 rfl ?_
  refine j_bipush 46 dX11_init_454 bp_46 ?_
  refine j_bipush 101 dX11_init_456 bp_101 ?_
  refine c_iast 46 dX11_init_458 h (by decide) sgM_19 (by decide) (by decide) ?_
  clear h M
  intro M h
  refine j_dup dX11_init_459 rfl ?_
  refine j_bipush 47 dX11_init_460 bp_47 ?_
  refine j_bipush 118 dX11_init_462 bp_118 ?_
  refine c_iast 47 dX11_init_464 h (by decide) sgM_19 (by decide) (by decide) ?_
  clear h M
  intro M h
  refine j_dup dX11_init_465 rfl ?_
  refine j_bipush 48 dX11_init_466 bp_48 ?_
  refine j_bipush 105 dX11_init_468 bp_105 ?_
  refine c_iast 48 dX11_init_470 h (by decide) sgM_19 (by decide) (by decide) ?_
  clear h M
  intro M h
  refine j_dup dX11_init_471 rfl ?_
  refine j_bipush 49 dX11_init_472 bp_49 ?_
  refine j_bipush 99 dX11_init_474 bp_99 ?_
  refine c_iast 49 dX11_init_476 h (by decide) sgM_19 (by decide) (by decide) ?_
  clear h M
  intro M h
  refine j_dup dX11_init_477 rfl ?_
  refine j_bipush 50 dX11_init_478 bp_50 ?_
  refine j_bipush 101 dX11_init_480 bp_101 ?_
  refine c_iast 50 dX11_init_482 h (by decide) sgM_19 (by decide) (by decide) ?_
  clear h M
  intro M h
  refine j_dup dX11_init_483 rfl ?_
  refine j_bipush 51 dX11_init_484 bp_51 ?_
  refine j_bipush 32 dX11_init_486 bp_32 ?_
  refine c_iast 51 dX11_init_488 h (by decide) sgM_19 (by decide) (by decide) ?_
  clear h M
  intro M h
  refine j_dup dX11_init_489 rfl ?_
  refine j_bipush 52 dX11_init_490 bp_52 ?_
  refine j_iconst 0 dX11_init_492 ic_0 ?_
  refine c_iast 52 dX11_init_493 h (by decide) sgM_19 (by decide) (by decide) ?_
  clear h M
  intro M h
  refine j_dup dX11_init_494 rfl ?_
  refine j_bipush 53 dX11_init_495 bp_53 ?_
  refine j_bipush 111 dX11_init_497 bp_111 ?_
  refine c_iast 53 dX11_init_499 h (by decide) sgM_19 (by decide) (by decide) ?_
  clear h M
  intro M h
  refine j_dup dX11_init_500 rfl ?_
  refine j_bipush 54 dX11_init_501 bp_54 ?_
  refine j_bipush 112 dX11_init_503 bp_112 ?_
  refine c_iast 54 dX11_init_505 h (by decide) sgM_19 (by decide) (by decide) ?_
  clear h M
  intro M h
  refine j_dup dX11_init_506 rfl ?_
  refine j_bipush 55 dX11_init_507 bp_55 ?_
  refine j_bipush 101 dX11_init_509 bp_101 ?_
  refine c_iast 55 dX11_init_511 h (by decide) sgM_19 (by decide) (by decide) ?_
  clear h M
  intro M h
  refine j_dup dX11_init_512 rfl ?_
  refine j_bipush 56 dX11_init_513 bp_56 ?_
  refine j_bipush 110 dX11_init_515 bp_110 ?_
  refine c_iast 56 dX11_init_517 h (by decide) sgM_19 (by decide) (by decide) ?_
  clear h M
  intro M h
  refine j_dup dX11_init_518 rfl ?_
  refine j_bipush 57 dX11_init_519 bp_57 ?_
  refine j_bipush 32 dX11_init_521 bp_32 ?_
  refine c_iast 57 dX11_init_523 h (by decide) sgM_19 (by decide) (by decide) ?_
  clear h M
  intro M h
  refine j_dup dX11_init_524 rfl ?_
  refine j_bipush 58 dX11_init_525 bp_58 ?_
  refine j_iconst 0 dX11_init_527 ic_0 ?_
  refine c_iast 58 dX11_init_528 h (by decide) sgM_19 (by decide) (by decide) ?_
  clear h M
  intro M h
  refine j_dup dX11_init_529 rfl ?_
  refine j_bipush 59 dX11_init_530 bp_59 ?_
  refine j_bipush 115 dX11_init_532 bp_115 ?_
  refine c_iast 59 dX11_init_534 h (by decide) sgM_19 (by decide) (by decide) ?_
  clear h M
  intro M h
  refine j_dup dX11_init_535 rfl ?_
  refine j_bipush 60 dX11_init_536 bp_60 ?_
  refine j_bipush 104 dX11_init_538 bp_104 ?_
  refine c_iast 60 dX11_init_540 h (by decide) sgM_19 (by decide) (by decide) ?_
  clear h M
  intro M h
  refine j_dup dX11_init_541 rfl ?_
  refine j_bipush 61 dX11_init_542 bp_61 ?_
  refine j_bipush 117 dX11_init_544 bp_117 ?_
  refine c_iast 61 dX11_init_546 h (by decide) sgM_19 (by decide) (by decide) ?_
  clear h M
  intro M h
  refine j_dup dX11_init_547 rfl ?_
  refine j_bipush 62 dX11_init_548 bp_62 ?_
  refine j_bipush 116 dX11_init_550 bp_116 ?_
  refine c_iast 62 dX11_init_552 h (by decide) sgM_19 (by decide) (by decide) ?_
  clear h M
  intro M h
  refine j_dup dX11_init_553 rfl ?_
  refine j_bipush 63 dX11_init_554 bp_63 ?_
  refine j_bipush 32 dX11_init_556 bp_32 ?_
  refine c_iast 63 dX11_init_558 h (by decide) sgM_19 (by decide) (by decide) ?_
  clear h M
  intro M h
  refine j_dup dX11_init_559 rfl ?_
  refine j_bipush 64 dX11_init_560 bp_64 ?_
  refine j_iconst 0 dX11_init_562 ic_0 ?_
  refine c_iast 64 dX11_init_563 h (by decide) sgM_19 (by decide) (by decide) ?_
  clear h M
  intro M h
  refine j_dup dX11_init_564 rfl ?_
  refine j_bipush 65 dX11_init_565 bp_65 ?_
  refine j_bipush 109 dX11_init_567 bp_109 ?_
  refine c_iast 65 dX11_init_569 h (by decide) sgM_19 (by decide) (by decide) ?_
  clear h M
  intro M h
  refine j_dup dX11_init_570 rfl ?_
  refine j_bipush 66 dX11_init_571 bp_66 ?_
  refine j_bipush 105 dX11_init_573 bp_105 ?_
  refine c_iast 66 dX11_init_575 h (by decide) sgM_19 (by decide) (by decide) ?_
  clear h M
  intro M h
  refine j_dup dX11_init_576 rfl ?_
  refine j_bipush 67 dX11_init_577 bp_67 ?_
  refine j_bipush 110 dX11_init_579 bp_110 ?_
  refine c_iast 67 dX11_init_581 h (by decide) sgM_19 (by decide) (by decide) ?_
  clear h M
  intro M h
  refine j_dup dX11_init_582 rfl ?_
  refine j_bipush 68 dX11_init_583 bp_68 ?_
  refine j_bipush 117 dX11_init_585 bp_117 ?_
  refine c_iast 68 dX11_init_587 h (by decide) sgM_19 (by decide) (by decide) ?_
  clear h M
  intro M h
  refine j_dup dX11_init_588 rfl ?_
  refine j_bipush 69 dX11_init_589 bp_69 ?_
  refine j_bipush 116 dX11_init_591 bp_116 ?_
  refine c_iast 69 dX11_init_593 h (by decide) sgM_19 (by decide) (by decide) ?_
  clear h M
  intro M h
  refine j_dup dX11_init_594 rfl ?_
  refine j_bipush 70 dX11_init_595 bp_70 ?_
  refine j_bipush 101 dX11_init_597 bp_101 ?_
  refine c_iast 70 dX11_init_599 h (by decide) sgM_19 (by decide) (by decide) ?_
  clear h M
  intro M h
  refine j_dup dX11_init_600 rfl ?_
  refine j_bipush 71 dX11_init_601 bp_71 ?_
  refine j_bipush 32 dX11_init_603 bp_32 ?_
  refine c_iast 71 dX11_init_605 h (by decide) sgM_19 (by decide) (by decide) ?_
  clear h M
  intro M h
  refine j_dup dX11_init_606 rfl ?_
  refine j_bipush 72 dX11_init_607 bp_72 ?_
  refine j_iconst 0 dX11_init_609 ic_0 ?_
  refine c_iast 72 dX11_init_610 h (by decide) sgM_19 (by decide) (by decide) ?_
  clear h M
  intro M h
  refine c_putrF dX11_init_611 fX11_81 rfl rfl h (by decide) sgM_0 rfl ?_
  clear h M
  intro M h
  refine j_aload_n 0 dX11_init_614 rfl ?_
  refine j_bipush 10 dX11_init_615 bp_10 ?_
  refine c_newI (kc := 11) (ks := 517) (N := 10) dX11_init_617 rfl rfl ac_int (by decide) (by decide) (by decide) h sgM_20 (by decide) ?_
  clear h M
  intro M h
  refine j_dup dX11_init_619 rfl ?_
  refine j_iconst 0 dX11_init_620 ic_0 ?_
  refine j_iconst 1 dX11_init_621 ic_1 ?_
  refine c_iast 0 dX11_init_622 h (by decide) sgM_20 (by decide) (by decide) ?_
  clear h M
  intro M h
  refine j_dup dX11_init_623 rfl ?_
  refine j_iconst 1 dX11_init_624 ic_1 ?_
  refine j_iconst 3 dX11_init_625 ic_3 ?_
  refine c_iast 1 dX11_init_626 h (by decide) sgM_20 (by decide) (by decide) ?_
  clear h M
  intro M h
  refine j_dup dX11_init_627 rfl ?_
  refine j_iconst 2 dX11_init_628 ic_2 ?_
  refine j_iconst 2 dX11_init_629 ic_2 ?_
  refine c_iast 2 dX11_init_630 h (by decide) sgM_20 (by decide) (by decide) ?_
  clear h M
  intro M h
  refine j_dup dX11_init_631 rfl ?_
  refine j_iconst 3 dX11_init_632 ic_3 ?_
  refine j_iconst 1 dX11_init_633 ic_1 ?_
  refine c_iast 3 dX11_init_634 h (by decide) sgM_20 (by decide) (by decide) ?_
  clear h M
  intro M h
  refine j_dup dX11_init_635 rfl ?_
  refine j_iconst 4 dX11_init_636 ic_4 ?_
  refine j_iconst 1 dX11_init_637 ic_1 ?_
  refine c_iast 4 dX11_init_638 h (by decide) sgM_20 (by decide) (by decide) ?_
  clear h M
  intro M h
  refine j_dup dX11_init_639 rfl ?_
  refine j_iconst 5 dX11_init_640 ic_5 ?_
  refine j_iconst 2 dX11_init_641 ic_2 ?_
  refine c_iast 5 dX11_init_642 h (by decide) sgM_20 (by decide) (by decide) ?_
  clear h M
  intro M h
  refine j_dup dX11_init_643 rfl ?_
  refine j_bipush 6 dX11_init_644 bp_6 ?_
  refine j_iconst 3 dX11_init_646 ic_3 ?_
  refine c_iast 6 dX11_init_647 h (by decide) sgM_20 (by decide) (by decide) ?_
  clear h M
  intro M h
  refine j_dup dX11_init_648 rfl ?_
  refine j_bipush 7 dX11_init_649 bp_7 ?_
  refine j_iconst 1 dX11_init_651 ic_1 ?_
  refine c_iast 7 dX11_init_652 h (by decide) sgM_20 (by decide) (by decide) ?_
  clear h M
  intro M h
  refine j_dup dX11_init_653 rfl ?_
  refine j_bipush 8 dX11_init_654 bp_8 ?_
  refine j_iconst 1 dX11_init_656 ic_1 ?_
  refine c_iast 8 dX11_init_657 h (by decide) sgM_20 (by decide) (by decide) ?_
  clear h M
  intro M h
  refine j_dup dX11_init_658 rfl ?_
  refine j_bipush 9 dX11_init_659 bp_9 ?_
  refine j_iconst 1 dX11_init_661 ic_1 ?_
  refine c_iast 9 dX11_init_662 h (by decide) sgM_20 (by decide) (by decide) ?_
  clear h M
  intro M h
  refine c_putrF dX11_init_663 fX11_84 rfl rfl h (by decide) sgM_0 rfl ?_
  clear h M
  intro M h
  refine j_aload_n 0 dX11_init_666 rfl ?_
  refine j_iconst 3 dX11_init_667 ic_3 ?_
  refine c_newI (kc := 10) (ks := 514) (N := 3) dX11_init_668 rfl rfl ac_int (by decide) (by decide) (by decide) h sgM_21 (by decide) ?_
  clear h M
  intro M h
  refine c_putrF dX11_init_670 fX11_87 rfl rfl h (by decide) sgM_0 rfl ?_
  clear h M
  intro M h
  refine j_aload_n 0 dX11_init_673 rfl ?_
  refine j_bipush 120 dX11_init_674 bp_120 ?_
  refine c_newI (kc := 9) (ks := 394) (N := 120) dX11_init_676 rfl rfl ac_int (by decide) (by decide) (by decide) h sgM_22 (by decide) ?_
  clear h M
  intro M h
  refine c_putrF dX11_init_678 fX11_90 rfl rfl h (by decide) sgM_0 rfl ?_
  clear h M
  intro M h
  refine j_aload_n 0 dX11_init_681 rfl ?_
  refine j_bipush 120 dX11_init_682 bp_120 ?_
  refine c_newI (kc := 8) (ks := 274) (N := 120) dX11_init_684 rfl rfl ac_int (by decide) (by decide) (by decide) h sgM_23 (by decide) ?_
  clear h M
  intro M h
  refine c_putrF dX11_init_686 fX11_93 rfl rfl h (by decide) sgM_0 rfl ?_
  clear h M
  intro M h
  refine j_aload_n 0 dX11_init_689 rfl ?_
  refine j_bipush 80 dX11_init_690 bp_80 ?_
  refine c_newI (kc := 7) (ks := 194) (N := 80) dX11_init_692 rfl rfl ac_int (by decide) (by decide) (by decide) h sgM_24 (by decide) ?_
  clear h M
  intro M h
  refine c_putrF dX11_init_694 fX11_96 rfl rfl h (by decide) sgM_0 rfl ?_
  clear h M
  intro M h
  refine j_aload_n 0 dX11_init_697 rfl ?_
  refine j_bipush 80 dX11_init_698 bp_80 ?_
  refine c_newI (kc := 6) (ks := 114) (N := 80) dX11_init_700 rfl rfl ac_int (by decide) (by decide) (by decide) h sgM_25 (by decide) ?_
  clear h M
  intro M h
  refine c_putrF dX11_init_702 fX11_99 rfl rfl h (by decide) sgM_0 rfl ?_
  clear h M
  intro M h
  refine j_aload_n 0 dX11_init_705 rfl ?_
  refine j_iconst (-1) dX11_init_706 ic_n1 ?_
  refine c_put dX11_init_707 fX11_102 h (by decide) sgM_0 rfl ?_
  clear h M
  intro M h
  refine j_aload_n 0 dX11_init_710 rfl ?_
  refine j_bipush 8 dX11_init_711 bp_8 ?_
  refine c_newI (kc := 5) (ks := 106) (N := 8) dX11_init_713 rfl rfl ac_int (by decide) (by decide) (by decide) h sgM_26 (by decide) ?_
  clear h M
  intro M h
  refine c_putrF dX11_init_715 fX11_105 rfl rfl h (by decide) sgM_0 rfl ?_
  clear h M
  intro M h
  refine j_aload_n 0 dX11_init_718 rfl ?_
  refine j_bipush 8 dX11_init_719 bp_8 ?_
  refine c_newI (kc := 4) (ks := 98) (N := 8) dX11_init_721 rfl rfl ac_int (by decide) (by decide) (by decide) h sgM_27 (by decide) ?_
  clear h M
  intro M h
  refine c_putrF dX11_init_723 fX11_108 rfl rfl h (by decide) sgM_0 rfl ?_
  clear h M
  intro M h
  refine j_aload_n 0 dX11_init_726 rfl ?_
  refine j_bipush 8 dX11_init_727 bp_8 ?_
  refine c_newI (kc := 3) (ks := 90) (N := 8) dX11_init_729 rfl rfl ac_int (by decide) (by decide) (by decide) h sgM_28 (by decide) ?_
  clear h M
  intro M h
  refine c_putrF dX11_init_731 fX11_111 rfl rfl h (by decide) sgM_0 rfl ?_
  clear h M
  intro M h
  refine j_aload_n 0 dX11_init_734 rfl ?_
  refine j_bipush 64 dX11_init_735 bp_64 ?_
  refine c_newI (kc := 2) (ks := 26) (N := 64) dX11_init_737 rfl rfl ac_int (by decide) (by decide) (by decide) h sgM_29 (by decide) ?_
  clear h M
  intro M h
  refine c_putrF dX11_init_739 fX11_114 rfl rfl h (by decide) sgM_0 rfl ?_
  clear h M
  intro M h
  refine j_aload_n 0 dX11_init_742 rfl ?_
  refine j_bipush 6 dX11_init_743 bp_6 ?_
  refine c_newI (kc := 1) (ks := 20) (N := 6) dX11_init_745 rfl rfl ac_int (by decide) (by decide) (by decide) h sgM_30 (by decide) ?_
  clear h M
  intro M h
  refine c_putrF dX11_init_747 fX11_117 rfl rfl h (by decide) sgM_0 rfl ?_
  clear h M
  intro M h
  refine j_aload_n 0 dX11_init_750 rfl ?_
  refine j_bipush 20 dX11_init_751 bp_20 ?_
  refine c_newI (kc := 0) (ks := 0) (N := 20) dX11_init_753 rfl rfl ac_int (by decide) (by decide) (by decide) h sgM_31 (by decide) ?_
  clear h M
  intro M h
  refine c_putrF dX11_init_755 fX11_120 rfl rfl h (by decide) sgM_0 rfl ?_
  clear h M
  intro M h
  refine j_vret dX11_init_758 rfl ?_
  exact hQ _ _ ⟨rfl, h⟩
