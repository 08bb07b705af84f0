/-! constructors: a memory that is new, by lists of what was written -/
def lkR : List (Nat × Nat × Nat) → Nat → Nat → Option Nat
  | [], _, _ => none
  | e :: W, a, k => if a = e.1 ∧ k = e.2.1 then some e.2.2 else lkR W a k
def lkI : List (Nat × Nat × Int32) → Nat → Nat → Int32
  | [], _, _ => 0
  | e :: V, a, k => if a = e.1 ∧ k = e.2.1 then e.2.2 else lkI V a k
def SL (gr : List (Nat × Nat)) (n : Nat) (W : List (Nat × Nat × Nat)) (V : List (Nat × Nat × Int32)) (M : jk_M) : Prop := M.1 = gr.take n ∧ M.2.2.2 = lkR W ∧ M.2.1 = lkI V ∧ M.2.2.1 = (fun _ _ => 0) ∧ (∀ e ∈ W, e.1 < n) ∧ (∀ e ∈ V, e.1 < n) ∧ n ≤ gr.length
theorem lkR_n {n k : Nat} : ∀ {W : List (Nat × Nat × Nat)}, (∀ e ∈ W, e.1 < n) → lkR W n k = none
  | [], _ => rfl
  | e :: W, h => by
    have h1 := h e List.mem_cons_self
    rw [lkR, if_neg (fun z => by have := z.1; omega)]
    exact lkR_n (fun x hx => h x (List.mem_cons_of_mem _ hx))
theorem lkI_n {n k : Nat} : ∀ {V : List (Nat × Nat × Int32)}, (∀ e ∈ V, e.1 < n) → lkI V n k = 0
  | [], _ => rfl
  | e :: V, h => by
    have h1 := h e List.mem_cons_self
    rw [lkI, if_neg (fun z => by have := z.1; omega)]
    exact lkI_n (fun x hx => h x (List.mem_cons_of_mem _ hx))
section SLS
variable {gr : List (Nat × Nat)} {n : Nat} {W : List (Nat × Nat × Nat)} {V : List (Nat × Nat × Int32)} {M : jk_M}
theorem SL.len (h : SL gr n W V M) : M.1.length = n := by
  rw [h.1, List.length_take]; exact Nat.min_eq_left h.2.2.2.2.2.2
theorem SL.sh (h : SL gr n W V M) {a : Nat} {sh : Nat × Nat} (ha : a < n) (hg : gr[a]? = some sh) : M.1[a]? = some sh := by
  rw [h.1, List.getElem?_take, if_pos ha]; exact hg
theorem SL.rd (h : SL gr n W V M) {a k q : Nat} (e : lkR W a k = some q) : M.2.2.2 a k = some q := by rw [h.2.1]; exact e
theorem SL.wI (h : SL gr n W V M) {a k : Nat} {x : Int32} (ha : a < n) : SL gr n W ((a, k, x) :: V) (jk_wI M a k x) := by
  obtain ⟨h1, h2, h3, h4, h5, h6, h7⟩ := h
  refine ⟨h1, h2, ?_, h4, h5, fun e he => (List.mem_cons.mp he).elim (fun z => by rw [z]; exact ha) (h6 e), h7⟩
  funext b j
  show va_up M.2.1 a (va_up (M.2.1 a) k x) b j = lkI ((a, k, x) :: V) b j
  rw [lkI, ← h3]
  by_cases e : b = a
  · subst e
    rw [va_up_self]
    by_cases e2 : j = k
    · subst e2; rw [if_pos ⟨rfl, rfl⟩]; simp [va_up]
    · rw [if_neg (fun z => e2 z.2)]; simp [va_up, e2]
  · rw [va_up_ne _ _ e, if_neg (fun z => e z.1)]
theorem SL.wR (h : SL gr n W V M) {a k q : Nat} (ha : a < n) : SL gr n ((a, k, q) :: W) V (jk_wR M a k (some q)) := by
  obtain ⟨h1, h2, h3, h4, h5, h6, h7⟩ := h
  refine ⟨h1, ?_, h3, h4, fun e he => (List.mem_cons.mp he).elim (fun z => by rw [z]; exact ha) (h5 e), h6, h7⟩
  funext b j
  show va_up M.2.2.2 a (va_up (M.2.2.2 a) k (some q)) b j = lkR ((a, k, q) :: W) b j
  rw [lkR, ← h2]
  by_cases e : b = a
  · subst e
    rw [va_up_self]
    by_cases e2 : j = k
    · subst e2; rw [if_pos ⟨rfl, rfl⟩]; simp [va_up]
    · rw [if_neg (fun z => e2 z.2)]; simp [va_up, e2]
  · rw [va_up_ne _ _ e, if_neg (fun z => e z.1)]
theorem SL.nw (h : SL gr n W V M) {sh : Nat × Nat} (hg : gr[n]? = some sh) : SL gr (n + 1) W V (jk_nw M sh) := by
  have hl := h.len
  obtain ⟨h1, h2, h3, h4, h5, h6, h7⟩ := h
  have hn : n < gr.length := by
    by_cases c : n < gr.length
    · exact c
    · rw [List.getElem?_eq_none (by omega)] at hg; cases hg
  refine ⟨?_, ?_, ?_, ?_, fun e he => Nat.lt_succ_of_lt (h5 e he), fun e he => Nat.lt_succ_of_lt (h6 e he), hn⟩
  · show M.1 ++ [sh] = _
    rw [h1, List.take_succ, hg]; rfl
  · show va_up M.2.2.2 M.1.length (fun _ => none) = _
    rw [hl, h2]; funext b j
    by_cases e : b = n
    · subst e; rw [va_up_self]; exact (lkR_n h5).symm
    · rw [va_up_ne _ _ e]
  · show va_up M.2.1 M.1.length (fun _ => 0) = _
    rw [hl, h3]; funext b j
    by_cases e : b = n
    · subst e; rw [va_up_self]; exact (lkI_n h6).symm
    · rw [va_up_ne _ _ e]
  · show va_up M.2.2.1 M.1.length (fun _ => 0) = _
    rw [h4]; funext b j
    by_cases e : b = M.1.length
    · rw [e, va_up_self]
    · rw [va_up_ne _ _ e]
variable {F : jk_F} {d kc ks pc : Nat} {L : List (Nat × Value)} {st : List Value} {Q : Option Value → jk_M → Prop} {idx ci a k : Nat}
theorem c_put {x : Int32} (hdg : decode F.2.1 pc = .ok (.putfield idx, 3)) (hf : jk_fl F.1 idx ci k false) (h : SL gr n W V M) (ha : a < n) (hg : gr[a]? = some (0, ci)) (ht : jk_ft ci k = .int) (kk : ∀ M', SL gr n W ((a, k, x) :: V) M' → J F d kc ks (pc + 3) L st M' Q) : J F d kc ks pc L (.int x :: .ref a :: st) M Q := j_put hdg hf (h.sh ha hg) ht (kk _ (h.wI ha))
theorem c_putz {x : Int32} (hdg : decode F.2.1 pc = .ok (.putfield idx, 3)) (hf : jk_fl F.1 idx ci k false) (h : SL gr n W V M) (ha : a < n) (hg : gr[a]? = some (0, ci)) (ht : jk_ft ci k = .boolean) (hx : x = 0 ∨ x = 1) (kk : ∀ M', SL gr n W ((a, k, x) :: V) M' → J F d kc ks (pc + 3) L st M' Q) : J F d kc ks pc L (.int x :: .ref a :: st) M Q := j_putz hdg hf (h.sh ha hg) ht hx (kk _ (h.wI ha))
theorem c_putr {q : Nat} (hdg : decode F.2.1 pc = .ok (.putfield idx, 3)) (hf : jk_fl F.1 idx ci k false) (h : SL gr n W V M) (ha : a < n) (hg : gr[a]? = some (0, ci)) (hR : jk_isR (jk_ft ci k) = true) (kk : ∀ M', SL gr n ((a, k, q) :: W) V M' → J F d kc ks (pc + 3) L st M' Q) : J F d kc ks pc L (.ref q :: .ref a :: st) M Q := j_putr hdg hf (h.sh ha hg) hR (kk _ (h.wR ha))
theorem c_putrF {q : Nat} (hdg : decode F.2.1 pc = .ok (.putfield idx, 3)) (hf : jk_fl F.1 idx ci k true) (hini : F.2.2.2.2 = true) (hci : (vwCl[ci]?).map (fun r => r.1) = some F.1) (h : SL gr n W V M) (ha : a < n) (hg : gr[a]? = some (0, ci)) (hR : jk_isR (jk_ft ci k) = true) (kk : ∀ M', SL gr n ((a, k, q) :: W) V M' → J F d kc ks (pc + 3) L st M' Q) : J F d kc ks pc L (.ref q :: .ref a :: st) M Q := j_putrF hdg hf hini hci (h.sh ha hg) hR (kk _ (h.wR ha))
theorem c_iast {x : Int32} {N : Nat} (i : Nat) (hdg : decode F.2.1 pc = .ok (.iastore, 1)) (h : SL gr n W V M) (ha : a < n) (hg : gr[a]? = some (1, N)) (hi : i < N) (hN : N < 2 ^ 31) (kk : ∀ M', SL gr n W ((a, i, x) :: V) M' → J F d kc ks (pc + 1) L st M' Q) : J F d kc ks pc L (.int x :: .int (nI i) :: .ref a :: st) M Q := j_iastN i hdg (h.sh ha hg) hi hN (kk _ (h.wI ha))
theorem c_aast {t N q cj : Nat} {r : vw_C} (i : Nat) (hdg : decode F.2.1 pc = .ok (.aastore, 1)) (h : SL gr n W V M) (ha : a < n) (hg : gr[a]? = some (t + 3, N)) (hty : ∀ dA : Nat → ClassId, (jk_tys dA)[t + 2]? = some (dA (t + 2), .object r.1)) (hqn : q < n) (hgq : gr[q]? = some (0, cj)) (hcj : vwCl[cj]? = some r) (hi : i < N) (hN : N < 2 ^ 31) (kk : ∀ M', SL gr n ((a, i, q) :: W) V M' → J F d kc ks (pc + 1) L st M' Q) : J F d kc ks pc L (.ref q :: .int (nI i) :: .ref a :: st) M Q := j_aast hdg (h.sh ha hg) hty (h.sh hqn hgq) hcj (vp_in_nI hi hN) (by rw [nI_clamp (by omega)]; exact kk _ (h.wR ha))
theorem c_new (hdg : decode F.2.1 pc = .ok (.new idx, 3)) (hini : F.2.2.2.2 = true) (hn : jk_nwC F.1 idx ci) (h : SL gr n W V M) (hg : gr[n]? = some (0, ci)) (hl : n < 1000) (kk : ∀ M', SL gr (n + 1) W V M' → J F d kc ks (pc + 3) L (.ref n :: st) M' Q) : J F d (kc + 1) (ks + jk_nf ci) pc L st M Q := by
  have e := h.len
  exact j_new hdg hini hn (by omega) (by rw [e]; exact kk _ (h.nw hg))
theorem c_newI {at1 : ArrayType} {x : Int32} {N : Nat} (hdg : decode F.2.1 pc = .ok (.newarray at1, 2)) (hat : newarray.typeOf at1 = .int) (hini : F.2.2.2.2 = true) (hw : Cond.arrayClass .int ∈ jk_gt) (hn : ¬ x < 0) (hN : x.toNatClampNeg = N) (hN2 : N ≤ 100000) (h : SL gr n W V M) (hg : gr[n]? = some (1, N)) (hl : n < 1000) (kk : ∀ M', SL gr (n + 1) W V M' → J F d kc ks (pc + 2) L (.ref n :: st) M' Q) : J F d (kc + 1) (ks + N) pc L (.int x :: st) M Q := by
  have e := h.len
  exact j_newaI hdg hat hini hw hn hN hN2 (by omega) (by rw [e]; exact kk _ (h.nw hg))
theorem c_newL {at1 : ArrayType} {x : Int32} {N : Nat} (hdg : decode F.2.1 pc = .ok (.newarray at1, 2)) (hat : newarray.typeOf at1 = .long) (hini : F.2.2.2.2 = true) (hw : Cond.arrayClass .long ∈ jk_gt) (hn : ¬ x < 0) (hN : x.toNatClampNeg = N) (hN2 : N ≤ 100000) (h : SL gr n W V M) (hg : gr[n]? = some (2, N)) (hl : n < 1000) (kk : ∀ M', SL gr (n + 1) W V M' → J F d kc ks (pc + 2) L (.ref n :: st) M' Q) : J F d (kc + 1) (ks + N) pc L (.int x :: st) M Q := by
  have e := h.len
  exact j_newaL hdg hat hini hw hn hN hN2 (by omega) (by rw [e]; exact kk _ (h.nw hg))
theorem c_anew {t : Nat} {C : String} {x : Int32} {N : Nat} (hdg : decode F.2.1 pc = .ok (.anewarray idx, 3)) (hini : F.2.2.2.2 = true) (hlk : Cond.classLink F.1 idx C ∈ jk_gt) (hov : Cond.arrayOver (.object C) ∈ jk_ns) (hty : ∀ dA : Nat → ClassId, (jk_tys dA)[t + 2]? = some (dA (t + 2), .object C)) (hn : ¬ x < 0) (hN : x.toNatClampNeg = N) (hN2 : N ≤ 100000) (h : SL gr n W V M) (hg : gr[n]? = some (t + 3, N)) (hl : n < 1000) (kk : ∀ M', SL gr (n + 1) W V M' → J F d kc ks (pc + 3) L (.ref n :: st) M' Q) : J F d (kc + 1) (ks + N) pc L (.int x :: st) M Q := by
  have e := h.len
  exact j_anew hdg hini hlk hov hty hn hN hN2 (by omega) (by rw [e]; exact kk _ (h.nw hg))
end SLS
set_option maxRecDepth 20000 in
set_option maxHeartbeats 4000000 in
theorem T_i_X9 {d : Nat} {W : List (Nat × Nat × Nat)} {V : List (Nat × Nat × Int32)} {M : jk_M} {gr : List (Nat × Nat)} {n o : Nat} (h : SL gr n W V M) (hon : o < n) (sgo : gr[o]? = some (0, 9)) : J Fr_X9_init d 0 0 0 [(0, .ref o)] [] M (jk_ex none (fun M1 => SL gr n (W) ((o, 3, 1) :: (o, 2, 0) :: (o, 1, 0) :: (o, 0, 0) :: V) M1)) := by
  refine j_post (fun Q hQ => ?_)
  refine j_aload_n 0 dX9_init_0 rfl ?_
  refine j_objInit dX9_init_1 mX9_3 ob_init.1 ob_init.2 (Nat.le_of_ble_eq_true rfl) ?_
  refine j_aload_n 0 dX9_init_4 rfl ?_
  refine j_iconst 0 dX9_init_5 ic_0 ?_
  refine c_put dX9_init_6 fX9_9 h (by omega) sgo rfl ?_
  clear h M
  intro M h
  refine j_aload_n 0 dX9_init_9 rfl ?_
  refine j_iconst 0 dX9_init_10 ic_0 ?_
  refine c_put dX9_init_11 fX9_15 h (by omega) sgo rfl ?_
  clear h M
  intro M h
  refine j_aload_n 0 dX9_init_14 rfl ?_
  refine j_iconst 0 dX9_init_15 ic_0 ?_
  refine c_put dX9_init_16 fX9_18 h (by omega) sgo rfl ?_
  clear h M
  intro M h
  refine j_aload_n 0 dX9_init_19 rfl ?_
  refine j_iconst 1 dX9_init_20 ic_1 ?_
  refine c_putz dX9_init_21 fX9_21 h (by omega) sgo rfl (by decide) ?_
  clear h M
  intro M h
  refine j_vret dX9_init_24 rfl ?_
  exact hQ _ _ ⟨rfl, h⟩
set_option maxRecDepth 20000 in
set_option maxHeartbeats 4000000 in
theorem T_i_X1 {d : Nat} {W : List (Nat × Nat × Nat)} {V : List (Nat × Nat × Int32)} {M : jk_M} {gr : List (Nat × Nat)} {n o : Nat} (h : SL gr n W V M) (hon : o < n) (sgo : gr[o]? = some (0, 1)) : J Fr_X1_init d 0 0 0 [(0, .ref o)] [] M (jk_ex none (fun M1 => SL gr n (W) ((o, 3, 0) :: (o, 2, 1) :: (o, 1, 1) :: (o, 0, 0) :: V) M1)) := by
  refine j_post (fun Q hQ => ?_)
  refine j_aload_n 0 dX1_init_0 rfl ?_
  refine j_objInit dX1_init_1 mX1_1 ob_init.1 ob_init.2 (Nat.le_of_ble_eq_true rfl) ?_
  refine j_aload_n 0 dX1_init_4 rfl ?_
  refine j_iconst 0 dX1_init_5 ic_0 ?_
  refine c_put dX1_init_6 fX1_7 h (by omega) sgo rfl ?_
  clear h M
  intro M h
  refine j_aload_n 0 dX1_init_9 rfl ?_
  refine j_iconst 1 dX1_init_10 ic_1 ?_
  refine c_put dX1_init_11 fX1_13 h (by omega) sgo rfl ?_
  clear h M
  intro M h
  refine j_aload_n 0 dX1_init_14 rfl ?_
  refine j_iconst 1 dX1_init_15 ic_1 ?_
  refine c_put dX1_init_16 fX1_16 h (by omega) sgo rfl ?_
  clear h M
  intro M h
  refine j_aload_n 0 dX1_init_19 rfl ?_
  refine j_iconst 0 dX1_init_20 ic_0 ?_
  refine c_put dX1_init_21 fX1_19 h (by omega) sgo rfl ?_
  clear h M
  intro M h
  refine j_vret dX1_init_24 rfl ?_
  exact hQ _ _ ⟨rfl, h⟩
set_option maxRecDepth 20000 in
set_option maxHeartbeats 4000000 in
theorem T_i_X8 {d : Nat} {W : List (Nat × Nat × Nat)} {V : List (Nat × Nat × Int32)} {M : jk_M} {gr : List (Nat × Nat)} {n o : Nat} (h : SL gr n W V M) (hon : o < n) (sgo : gr[o]? = some (0, 8)) (sgn : gr[n]? = some (2, 160)) (hn9 : n < 1000) : J Fr_X8_init d 1 160 0 [(0, .ref o)] [] M (jk_ex none (fun M1 => SL gr (n + 1) ((o, 3, n) :: W) ((o, 2, (-1)) :: (o, 1, 0) :: (o, 0, (-1)) :: V) M1)) := by
  refine j_post (fun Q hQ => ?_)
  refine j_aload_n 0 dX8_init_0 rfl ?_
  refine j_objInit dX8_init_1 mX8_3 ob_init.1 ob_init.2 (Nat.le_of_ble_eq_true rfl) ?_
  refine j_aload_n 0 dX8_init_4 rfl ?_
  refine j_iconst (-1) dX8_init_5 ic_n1 ?_
  refine c_put dX8_init_6 fX8_11 h (by omega) sgo rfl ?_
  clear h M
  intro M h
  refine j_aload_n 0 dX8_init_9 rfl ?_
  refine j_iconst 0 dX8_init_10 ic_0 ?_
  refine c_put dX8_init_11 fX8_15 h (by omega) sgo rfl ?_
  clear h M
  intro M h
  refine j_aload_n 0 dX8_init_14 rfl ?_
  refine j_iconst (-1) dX8_init_15 ic_n1 ?_
  refine c_put dX8_init_16 fX8_18 h (by omega) sgo rfl ?_
  clear h M
  intro M h
  refine j_aload_n 0 dX8_init_19 rfl ?_
  refine j_sipush 160 dX8_init_20 sp_160 ?_
  refine c_newL (kc := 0) (ks := 0) (N := 160) dX8_init_23 rfl rfl ac_long (by decide) (by decide) (by decide) h sgn hn9 ?_
  clear h M
  intro M h
  refine c_putrF dX8_init_25 fX8_21 rfl rfl h (by omega) sgo rfl ?_
  clear h M
  intro M h
  refine j_vret dX8_init_28 rfl ?_
  exact hQ _ _ ⟨rfl, h⟩
set_option maxRecDepth 20000 in
set_option maxHeartbeats 4000000 in
theorem T_i_X2_1 {d : Nat} {W : List (Nat × Nat × Nat)} {V : List (Nat × Nat × Int32)} {M : jk_M} (h : SL jGC 2 W V M) : J Fr_X2_init (d + 1) 26 126 0 [(0, .ref 1)] [] M (jk_ex none (fun M1 => SL jGC 28 ((3, 5, 27) :: (3, 4, 26) :: (3, 3, 25) :: (3, 2, 24) :: (3, 1, 23) :: (3, 0, 22) :: (2, 15, 21) :: (2, 14, 20) :: (2, 13, 19) :: (2, 12, 18) :: (2, 11, 17) :: (2, 10, 16) :: (2, 9, 15) :: (2, 8, 14) :: (2, 7, 13) :: (2, 6, 12) :: (2, 5, 11) :: (2, 4, 10) :: (2, 3, 9) :: (2, 2, 8) :: (2, 1, 7) :: (2, 0, 6) :: (1, 13, 5) :: (1, 12, 4) :: (1, 11, 3) :: (1, 10, 2) :: W) ((27, 3, 0) :: (27, 2, 1) :: (27, 1, 1) :: (27, 0, 0) :: (26, 3, 0) :: (26, 2, 1) :: (26, 1, 1) :: (26, 0, 0) :: (25, 3, 0) :: (25, 2, 1) :: (25, 1, 1) :: (25, 0, 0) :: (24, 3, 0) :: (24, 2, 1) :: (24, 1, 1) :: (24, 0, 0) :: (23, 3, 0) :: (23, 2, 1) :: (23, 1, 1) :: (23, 0, 0) :: (22, 3, 0) :: (22, 2, 1) :: (22, 1, 1) :: (22, 0, 0) :: (21, 3, 1) :: (21, 2, 0) :: (21, 1, 0) :: (21, 0, 0) :: (20, 3, 1) :: (20, 2, 0) :: (20, 1, 0) :: (20, 0, 0) :: (19, 3, 1) :: (19, 2, 0) :: (19, 1, 0) :: (19, 0, 0) :: (18, 3, 1) :: (18, 2, 0) :: (18, 1, 0) :: (18, 0, 0) :: (17, 3, 1) :: (17, 2, 0) :: (17, 1, 0) :: (17, 0, 0) :: (16, 3, 1) :: (16, 2, 0) :: (16, 1, 0) :: (16, 0, 0) :: (15, 3, 1) :: (15, 2, 0) :: (15, 1, 0) :: (15, 0, 0) :: (14, 3, 1) :: (14, 2, 0) :: (14, 1, 0) :: (14, 0, 0) :: (13, 3, 1) :: (13, 2, 0) :: (13, 1, 0) :: (13, 0, 0) :: (12, 3, 1) :: (12, 2, 0) :: (12, 1, 0) :: (12, 0, 0) :: (11, 3, 1) :: (11, 2, 0) :: (11, 1, 0) :: (11, 0, 0) :: (10, 3, 1) :: (10, 2, 0) :: (10, 1, 0) :: (10, 0, 0) :: (9, 3, 1) :: (9, 2, 0) :: (9, 1, 0) :: (9, 0, 0) :: (8, 3, 1) :: (8, 2, 0) :: (8, 1, 0) :: (8, 0, 0) :: (7, 3, 1) :: (7, 2, 0) :: (7, 1, 0) :: (7, 0, 0) :: (6, 3, 1) :: (6, 2, 0) :: (6, 1, 0) :: (6, 0, 0) :: (1, 9, 0) :: (1, 8, 0) :: (1, 7, 0) :: (1, 6, (-1)) :: (1, 5, 0) :: (1, 4, 1) :: (1, 3, 0) :: (1, 2, 6) :: (1, 1, 50) :: (1, 0, 4) :: V) M1)) := by
  refine j_post (fun Q hQ => ?_)
  refine j_aload_n 0 dX2_init_0 rfl ?_
  refine j_objInit dX2_init_1 mX2_3 ob_init.1 ob_init.2 (Nat.le_of_ble_eq_true rfl) ?_
  refine j_aload_n 0 dX2_init_4 rfl ?_
  refine j_iconst 4 dX2_init_5 ic_4 ?_
  refine c_put dX2_init_6 fX2_9 h (by decide) sgC_1 rfl ?_
  clear h M
  intro M h
  refine j_aload_n 0 dX2_init_9 rfl ?_
  refine j_bipush 50 dX2_init_10 bp_50 ?_
  refine c_put dX2_init_12 fX2_15 h (by decide) sgC_1 rfl ?_
  clear h M
  intro M h
  refine j_aload_n 0 dX2_init_15 rfl ?_
  refine j_bipush 6 dX2_init_16 bp_6 ?_
  refine c_put dX2_init_18 fX2_18 h (by decide) sgC_1 rfl ?_
  clear h M
  intro M h
  refine j_aload_n 0 dX2_init_21 rfl ?_
  refine j_iconst 0 dX2_init_22 ic_0 ?_
  refine c_put dX2_init_23 fX2_21 h (by decide) sgC_1 rfl ?_
  clear h M
  intro M h
  refine j_aload_n 0 dX2_init_26 rfl ?_
  refine j_iconst 1 dX2_init_27 ic_1 ?_
  refine c_put dX2_init_28 fX2_24 h (by decide) sgC_1 rfl ?_
  clear h M
  intro M h
  refine j_aload_n 0 dX2_init_31 rfl ?_
  refine j_iconst 0 dX2_init_32 ic_0 ?_
  refine c_put dX2_init_33 fX2_27 h (by decide) sgC_1 rfl ?_
  clear h M
  intro M h
  refine j_aload_n 0 dX2_init_36 rfl ?_
  refine j_iconst (-1) dX2_init_37 ic_n1 ?_
  refine c_put dX2_init_38 fX2_30 h (by decide) sgC_1 rfl ?_
  clear h M
  intro M h
  refine j_aload_n 0 dX2_init_41 rfl ?_
  refine j_iconst 0 dX2_init_42 ic_0 ?_
  refine c_put dX2_init_43 fX2_33 h (by decide) sgC_1 rfl ?_
  clear h M
  intro M h
  refine j_aload_n 0 dX2_init_46 rfl ?_
  refine j_iconst 0 dX2_init_47 ic_0 ?_
  refine c_put dX2_init_48 fX2_36 h (by decide) sgC_1 rfl ?_
  clear h M
  intro M h
  refine j_aload_n 0 dX2_init_51 rfl ?_
  refine j_iconst 0 dX2_init_52 ic_0 ?_
  refine c_put dX2_init_53 fX2_39 h (by decide) sgC_1 rfl ?_
  clear h M
  intro M h
  refine j_aload_n 0 dX2_init_56 rfl ?_
  refine j_bipush 16 dX2_init_57 bp_16 ?_
  refine c_anew (t := 0) (kc := 25) (ks := 110) (N := 16) dX2_init_59 rfl clX2_42 ao_9 (fun _ => rfl) (by decide) (by decide) (by decide) h sgC_2 (by decide) ?_
  clear h M
  intro M h
  refine c_putrF dX2_init_62 fX2_44 rfl rfl h (by decide) sgC_1 rfl ?_
  clear h M
  intro M h
  refine j_aload_n 0 dX2_init_65 rfl ?_
  refine j_bipush 6 dX2_init_66 bp_6 ?_
  refine c_anew (t := 1) (kc := 24) (ks := 104) (N := 6) dX2_init_68 rfl clX2_48 ao_1 (fun _ => rfl) (by decide) (by decide) (by decide) h sgC_3 (by decide) ?_
  clear h M
  intro M h
  refine c_putrF dX2_init_71 fX2_50 rfl rfl h (by decide) sgC_1 rfl ?_
  clear h M
  intro M h
  refine j_aload_n 0 dX2_init_74 rfl ?_
  refine j_bipush 8 dX2_init_75 bp_8 ?_
  refine c_newI (kc := 23) (ks := 96) (N := 8) dX2_init_77 rfl rfl ac_int (by decide) (by decide) (by decide) h sgC_4 (by decide) ?_
  clear h M
  intro M h
  refine c_putrF dX2_init_79 fX2_54 rfl rfl h (by decide) sgC_1 rfl ?_
  clear h M
  intro M h
  refine j_aload_n 0 dX2_init_82 rfl ?_
  refine j_bipush 8 dX2_init_83 bp_8 ?_
  refine c_newI (kc := 22) (ks := 88) (N := 8) dX2_init_85 rfl rfl ac_int (by decide) (by decide) (by decide) h sgC_5 (by decide) ?_
  clear h M
  intro M h
  refine c_putrF dX2_init_87 fX2_58 rfl rfl h (by decide) sgC_1 rfl ?_
  clear h M
  intro M h
  refine j_iconst 0 dX2_init_90 ic_0 ?_
  refine j_istore_n (L' := [(1, .int 0), (0, .ref 1)]) dX2_init_91 (by decide) rfl ?_
  refine j_iload_n 0 dX2_init_92 rfl ?_
  refine j_aload_n 1 dX2_init_93 rfl ?_
  refine j_getr (q := 2) dX2_init_94 fX2_44 (h.sh (by decide) sgC_1) rfl (h.rd rfl) ?_
  refine j_alen dX2_init_97 (h.sh (by decide) sgC_2) (by decide) ?_
  refine j_icmp_geN (tgt := 120) 0 16 dX2_init_98 rfl (by decide) (by decide) (fun c => absurd c (by decide)) (fun c => ?_)
  refine j_aload_n 1 dX2_init_101 rfl ?_
  refine j_getr (q := 2) dX2_init_102 fX2_44 (h.sh (by decide) sgC_1) rfl (h.rd rfl) ?_
  refine j_iload_n 0 dX2_init_105 rfl ?_
  refine c_new (kc := 21) (ks := 84) dX2_init_106 rfl nwX2_42 h sgC_6 (by decide) ?_
  clear h M
  intro M h
  refine j_dup dX2_init_109 rfl ?_
  refine j_callIN (kc := 21) (ks := 84) (a := 0) (b := 0) (d' := d) (As := []) (o := 6) dX2_init_110 kX2_61 rfl (by omega) rfl rfl rfl (Nat.le_of_ble_eq_true rfl) (Nat.le_of_ble_eq_true rfl) (T_i_X9 h (by decide) sgC_6) (kk_ev (fun M h => ?_))
  refine c_aast (t := 0) 0 dX2_init_113 h (by decide) sgC_2 (fun _ => rfl) (by decide) sgC_6 rfl (by decide) (by decide) ?_
  clear h M
  intro M h
  refine j_iinc 0 1 (L' := [(1, .int 1), (0, .ref 1)]) dX2_init_114 rfl (by decide) (by decide) rfl ?_
  refine j_goto (tgt := 92) dX2_init_117 rfl ?_
  refine j_iload_n 0 dX2_init_92 rfl ?_
  refine j_aload_n 1 dX2_init_93 rfl ?_
  refine j_getr (q := 2) dX2_init_94 fX2_44 (h.sh (by decide) sgC_1) rfl (h.rd rfl) ?_
  refine j_alen dX2_init_97 (h.sh (by decide) sgC_2) (by decide) ?_
  refine j_icmp_geN (tgt := 120) 1 16 dX2_init_98 rfl (by decide) (by decide) (fun c => absurd c (by decide)) (fun c => ?_)
  refine j_aload_n 1 dX2_init_101 rfl ?_
  refine j_getr (q := 2) dX2_init_102 fX2_44 (h.sh (by decide) sgC_1) rfl (h.rd rfl) ?_
  refine j_iload_n 0 dX2_init_105 rfl ?_
  refine c_new (kc := 20) (ks := 80) dX2_init_106 rfl nwX2_42 h sgC_7 (by decide) ?_
  clear h M
  intro M h
  refine j_dup dX2_init_109 rfl ?_
  refine j_callIN (kc := 20) (ks := 80) (a := 0) (b := 0) (d' := d) (As := []) (o := 7) dX2_init_110 kX2_61 rfl (by omega) rfl rfl rfl (Nat.le_of_ble_eq_true rfl) (Nat.le_of_ble_eq_true rfl) (T_i_X9 h (by decide) sgC_7) (kk_ev (fun M h => ?_))
  refine c_aast (t := 0) 1 dX2_init_113 h (by decide) sgC_2 (fun _ => rfl) (by decide) sgC_7 rfl (by decide) (by decide) ?_
  clear h M
  intro M h
  refine j_iinc 0 2 (L' := [(1, .int 2), (0, .ref 1)]) dX2_init_114 rfl (by decide) (by decide) rfl ?_
  refine j_goto (tgt := 92) dX2_init_117 rfl ?_
  refine j_iload_n 0 dX2_init_92 rfl ?_
  refine j_aload_n 1 dX2_init_93 rfl ?_
  refine j_getr (q := 2) dX2_init_94 fX2_44 (h.sh (by decide) sgC_1) rfl (h.rd rfl) ?_
  refine j_alen dX2_init_97 (h.sh (by decide) sgC_2) (by decide) ?_
  refine j_icmp_geN (tgt := 120) 2 16 dX2_init_98 rfl (by decide) (by decide) (fun c => absurd c (by decide)) (fun c => ?_)
  refine j_aload_n 1 dX2_init_101 rfl ?_
  refine j_getr (q := 2) dX2_init_102 fX2_44 (h.sh (by decide) sgC_1) rfl (h.rd rfl) ?_
  refine j_iload_n 0 dX2_init_105 rfl ?_
  refine c_new (kc := 19) (ks := 76) dX2_init_106 rfl nwX2_42 h sgC_8 (by decide) ?_
  clear h M
  intro M h
  refine j_dup dX2_init_109 rfl ?_
  refine j_callIN (kc := 19) (ks := 76) (a := 0) (b := 0) (d' := d) (As := []) (o := 8) dX2_init_110 kX2_61 rfl (by omega) rfl rfl rfl (Nat.le_of_ble_eq_true rfl) (Nat.le_of_ble_eq_true rfl) (T_i_X9 h (by decide) sgC_8) (kk_ev (fun M h => ?_))
  refine c_aast (t := 0) 2 dX2_init_113 h (by decide) sgC_2 (fun _ => rfl) (by decide) sgC_8 rfl (by decide) (by decide) ?_
  clear h M
  intro M h
  refine j_iinc 0 3 (L' := [(1, .int 3), (0, .ref 1)]) dX2_init_114 rfl (by decide) (by decide) rfl ?_
  refine j_goto (tgt := 92) dX2_init_117 rfl ?_
  refine j_iload_n 0 dX2_init_92 rfl ?_
  refine j_aload_n 1 dX2_init_93 rfl ?_
  refine j_getr (q := 2) dX2_init_94 fX2_44 (h.sh (by decide) sgC_1) rfl (h.rd rfl) ?_
  refine j_alen dX2_init_97 (h.sh (by decide) sgC_2) (by decide) ?_
  refine j_icmp_geN (tgt := 120) 3 16 dX2_init_98 rfl (by decide) (by decide) (fun c => absurd c (by decide)) (fun c => ?_)
  refine j_aload_n 1 dX2_init_101 rfl ?_
  refine j_getr (q := 2) dX2_init_102 fX2_44 (h.sh (by decide) sgC_1) rfl (h.rd rfl) ?_
  refine j_iload_n 0 dX2_init_105 rfl ?_
  refine c_new (kc := 18) (ks := 72) dX2_init_106 rfl nwX2_42 h sgC_9 (by decide) ?_
  clear h M
  intro M h
  refine j_dup dX2_init_109 rfl ?_
  refine j_callIN (kc := 18) (ks := 72) (a := 0) (b := 0) (d' := d) (As := []) (o := 9) dX2_init_110 kX2_61 rfl (by omega) rfl rfl rfl (Nat.le_of_ble_eq_true rfl) (Nat.le_of_ble_eq_true rfl) (T_i_X9 h (by decide) sgC_9) (kk_ev (fun M h => ?_))
  refine c_aast (t := 0) 3 dX2_init_113 h (by decide) sgC_2 (fun _ => rfl) (by decide) sgC_9 rfl (by decide) (by decide) ?_
  clear h M
  intro M h
  refine j_iinc 0 4 (L' := [(1, .int 4), (0, .ref 1)]) dX2_init_114 rfl (by decide) (by decide) rfl ?_
  refine j_goto (tgt := 92) dX2_init_117 rfl ?_
  refine j_iload_n 0 dX2_init_92 rfl ?_
  refine j_aload_n 1 dX2_init_93 rfl ?_
  refine j_getr (q := 2) dX2_init_94 fX2_44 (h.sh (by decide) sgC_1) rfl (h.rd rfl) ?_
  refine j_alen dX2_init_97 (h.sh (by decide) sgC_2) (by decide) ?_
  refine j_icmp_geN (tgt := 120) 4 16 dX2_init_98 rfl (by decide) (by decide) (fun c => absurd c (by decide)) (fun c => ?_)
  refine j_aload_n 1 dX2_init_101 rfl ?_
  refine j_getr (q := 2) dX2_init_102 fX2_44 (h.sh (by decide) sgC_1) rfl (h.rd rfl) ?_
  refine j_iload_n 0 dX2_init_105 rfl ?_
  refine c_new (kc := 17) (ks := 68) dX2_init_106 rfl nwX2_42 h sgC_10 (by decide) ?_
  clear h M
  intro M h
  refine j_dup dX2_init_109 rfl ?_
  refine j_callIN (kc := 17) (ks := 68) (a := 0) (b := 0) (d' := d) (As := []) (o := 10) dX2_init_110 kX2_61 rfl (by omega) rfl rfl rfl (Nat.le_of_ble_eq_true rfl) (Nat.le_of_ble_eq_true rfl) (T_i_X9 h (by decide) sgC_10) (kk_ev (fun M h => ?_))
  refine c_aast (t := 0) 4 dX2_init_113 h (by decide) sgC_2 (fun _ => rfl) (by decide) sgC_10 rfl (by decide) (by decide) ?_
  clear h M
  intro M h
  refine j_iinc 0 5 (L' := [(1, .int 5), (0, .ref 1)]) dX2_init_114 rfl (by decide) (by decide) rfl ?_
  refine j_goto (tgt := 92) dX2_init_117 rfl ?_
  refine j_iload_n 0 dX2_init_92 rfl ?_
  refine j_aload_n 1 dX2_init_93 rfl ?_
  refine j_getr (q := 2) dX2_init_94 fX2_44 (h.sh (by decide) sgC_1) rfl (h.rd rfl) ?_
  refine j_alen dX2_init_97 (h.sh (by decide) sgC_2) (by decide) ?_
  refine j_icmp_geN (tgt := 120) 5 16 dX2_init_98 rfl (by decide) (by decide) (fun c => absurd c (by decide)) (fun c => ?_)
  refine j_aload_n 1 dX2_init_101 rfl ?_
  refine j_getr (q := 2) dX2_init_102 fX2_44 (h.sh (by decide) sgC_1) rfl (h.rd rfl) ?_
  refine j_iload_n 0 dX2_init_105 rfl ?_
  refine c_new (kc := 16) (ks := 64) dX2_init_106 rfl nwX2_42 h sgC_11 (by decide) ?_
  clear h M
  intro M h
  refine j_dup dX2_init_109 rfl ?_
  refine j_callIN (kc := 16) (ks := 64) (a := 0) (b := 0) (d' := d) (As := []) (o := 11) dX2_init_110 kX2_61 rfl (by omega) rfl rfl rfl (Nat.le_of_ble_eq_true rfl) (Nat.le_of_ble_eq_true rfl) (T_i_X9 h (by decide) sgC_11) (kk_ev (fun M h => ?_))
  refine c_aast (t := 0) 5 dX2_init_113 h (by decide) sgC_2 (fun _ => rfl) (by decide) sgC_11 rfl (by decide) (by decide) ?_
  clear h M
  intro M h
  refine j_iinc 0 6 (L' := [(1, .int 6), (0, .ref 1)]) dX2_init_114 rfl (by decide) (by decide) rfl ?_
  refine j_goto (tgt := 92) dX2_init_117 rfl ?_
  refine j_iload_n 0 dX2_init_92 rfl ?_
  refine j_aload_n 1 dX2_init_93 rfl ?_
  refine j_getr (q := 2) dX2_init_94 fX2_44 (h.sh (by decide) sgC_1) rfl (h.rd rfl) ?_
  refine j_alen dX2_init_97 (h.sh (by decide) sgC_2) (by decide) ?_
  refine j_icmp_geN (tgt := 120) 6 16 dX2_init_98 rfl (by decide) (by decide) (fun c => absurd c (by decide)) (fun c => ?_)
  refine j_aload_n 1 dX2_init_101 rfl ?_
  refine j_getr (q := 2) dX2_init_102 fX2_44 (h.sh (by decide) sgC_1) rfl (h.rd rfl) ?_
  refine j_iload_n 0 dX2_init_105 rfl ?_
  refine c_new (kc := 15) (ks := 60) dX2_init_106 rfl nwX2_42 h sgC_12 (by decide) ?_
  clear h M
  intro M h
  refine j_dup dX2_init_109 rfl ?_
  refine j_callIN (kc := 15) (ks := 60) (a := 0) (b := 0) (d' := d) (As := []) (o := 12) dX2_init_110 kX2_61 rfl (by omega) rfl rfl rfl (Nat.le_of_ble_eq_true rfl) (Nat.le_of_ble_eq_true rfl) (T_i_X9 h (by decide) sgC_12) (kk_ev (fun M h => ?_))
  refine c_aast (t := 0) 6 dX2_init_113 h (by decide) sgC_2 (fun _ => rfl) (by decide) sgC_12 rfl (by decide) (by decide) ?_
  clear h M
  intro M h
  refine j_iinc 0 7 (L' := [(1, .int 7), (0, .ref 1)]) dX2_init_114 rfl (by decide) (by decide) rfl ?_
  refine j_goto (tgt := 92) dX2_init_117 rfl ?_
  refine j_iload_n 0 dX2_init_92 rfl ?_
  refine j_aload_n 1 dX2_init_93 rfl ?_
  refine j_getr (q := 2) dX2_init_94 fX2_44 (h.sh (by decide) sgC_1) rfl (h.rd rfl) ?_
  refine j_alen dX2_init_97 (h.sh (by decide) sgC_2) (by decide) ?_
  refine j_icmp_geN (tgt := 120) 7 16 dX2_init_98 rfl (by decide) (by decide) (fun c => absurd c (by decide)) (fun c => ?_)
  refine j_aload_n 1 dX2_init_101 rfl ?_
  refine j_getr (q := 2) dX2_init_102 fX2_44 (h.sh (by decide) sgC_1) rfl (h.rd rfl) ?_
  refine j_iload_n 0 dX2_init_105 rfl ?_
  refine c_new (kc := 14) (ks := 56) dX2_init_106 rfl nwX2_42 h sgC_13 (by decide) ?_
  clear h M
  intro M h
  refine j_dup dX2_init_109 rfl ?_
  refine j_callIN (kc := 14) (ks := 56) (a := 0) (b := 0) (d' := d) (As := []) (o := 13) dX2_init_110 kX2_61 rfl (by omega) rfl rfl rfl (Nat.le_of_ble_eq_true rfl) (Nat.le_of_ble_eq_true rfl) (T_i_X9 h (by decide) sgC_13) (kk_ev (fun M h => ?_))
  refine c_aast (t := 0) 7 dX2_init_113 h (by decide) sgC_2 (fun _ => rfl) (by decide) sgC_13 rfl (by decide) (by decide) ?_
  clear h M
  intro M h
  refine j_iinc 0 8 (L' := [(1, .int 8), (0, .ref 1)]) dX2_init_114 rfl (by decide) (by decide) rfl ?_
  refine j_goto (tgt := 92) dX2_init_117 rfl ?_
  refine j_iload_n 0 dX2_init_92 rfl ?_
  refine j_aload_n 1 dX2_init_93 rfl ?_
  refine j_getr (q := 2) dX2_init_94 fX2_44 (h.sh (by decide) sgC_1) rfl (h.rd rfl) ?_
  refine j_alen dX2_init_97 (h.sh (by decide) sgC_2) (by decide) ?_
  refine j_icmp_geN (tgt := 120) 8 16 dX2_init_98 rfl (by decide) (by decide) (fun c => absurd c (by decide)) (fun c => ?_)
  refine j_aload_n 1 dX2_init_101 rfl ?_
  refine j_getr (q := 2) dX2_init_102 fX2_44 (h.sh (by decide) sgC_1) rfl (h.rd rfl) ?_
  refine j_iload_n 0 dX2_init_105 rfl ?_
  refine c_new (kc := 13) (ks := 52) dX2_init_106 rfl nwX2_42 h sgC_14 (by decide) ?_
  clear h M
  intro M h
  refine j_dup dX2_init_109 rfl ?_
  refine j_callIN (kc := 13) (ks := 52) (a := 0) (b := 0) (d' := d) (As := []) (o := 14) dX2_init_110 kX2_61 rfl (by omega) rfl rfl rfl (Nat.le_of_ble_eq_true rfl) (Nat.le_of_ble_eq_true rfl) (T_i_X9 h (by decide) sgC_14) (kk_ev (fun M h => ?_))
  refine c_aast (t := 0) 8 dX2_init_113 h (by decide) sgC_2 (fun _ => rfl) (by decide) sgC_14 rfl (by decide) (by decide) ?_
  clear h M
  intro M h
  refine j_iinc 0 9 (L' := [(1, .int 9), (0, .ref 1)]) dX2_init_114 rfl (by decide) (by decide) rfl ?_
  refine j_goto (tgt := 92) dX2_init_117 rfl ?_
  refine j_iload_n 0 dX2_init_92 rfl ?_
  refine j_aload_n 1 dX2_init_93 rfl ?_
  refine j_getr (q := 2) dX2_init_94 fX2_44 (h.sh (by decide) sgC_1) rfl (h.rd rfl) ?_
  refine j_alen dX2_init_97 (h.sh (by decide) sgC_2) (by decide) ?_
  refine j_icmp_geN (tgt := 120) 9 16 dX2_init_98 rfl (by decide) (by decide) (fun c => absurd c (by decide)) (fun c => ?_)
  refine j_aload_n 1 dX2_init_101 rfl ?_
  refine j_getr (q := 2) dX2_init_102 fX2_44 (h.sh (by decide) sgC_1) rfl (h.rd rfl) ?_
  refine j_iload_n 0 dX2_init_105 rfl ?_
  refine c_new (kc := 12) (ks := 48) dX2_init_106 rfl nwX2_42 h sgC_15 (by decide) ?_
  clear h M
  intro M h
  refine j_dup dX2_init_109 rfl ?_
  refine j_callIN (kc := 12) (ks := 48) (a := 0) (b := 0) (d' := d) (As := []) (o := 15) dX2_init_110 kX2_61 rfl (by omega) rfl rfl rfl (Nat.le_of_ble_eq_true rfl) (Nat.le_of_ble_eq_true rfl) (T_i_X9 h (by decide) sgC_15) (kk_ev (fun M h => ?_))
  refine c_aast (t := 0) 9 dX2_init_113 h (by decide) sgC_2 (fun _ => rfl) (by decide) sgC_15 rfl (by decide) (by decide) ?_
  clear h M
  intro M h
  refine j_iinc 0 10 (L' := [(1, .int 10), (0, .ref 1)]) dX2_init_114 rfl (by decide) (by decide) rfl ?_
  refine j_goto (tgt := 92) dX2_init_117 rfl ?_
  refine j_iload_n 0 dX2_init_92 rfl ?_
  refine j_aload_n 1 dX2_init_93 rfl ?_
  refine j_getr (q := 2) dX2_init_94 fX2_44 (h.sh (by decide) sgC_1) rfl (h.rd rfl) ?_
  refine j_alen dX2_init_97 (h.sh (by decide) sgC_2) (by decide) ?_
  refine j_icmp_geN (tgt := 120) 10 16 dX2_init_98 rfl (by decide) (by decide) (fun c => absurd c (by decide)) (fun c => ?_)
  refine j_aload_n 1 dX2_init_101 rfl ?_
  refine j_getr (q := 2) dX2_init_102 fX2_44 (h.sh (by decide) sgC_1) rfl (h.rd rfl) ?_
  refine j_iload_n 0 dX2_init_105 rfl ?_
  refine c_new (kc := 11) (ks := 44) dX2_init_106 rfl nwX2_42 h sgC_16 (by decide) ?_
  clear h M
  intro M h
  refine j_dup dX2_init_109 rfl ?_
  refine j_callIN (kc := 11) (ks := 44) (a := 0) (b := 0) (d' := d) (As := []) (o := 16) dX2_init_110 kX2_61 rfl (by omega) rfl rfl rfl (Nat.le_of_ble_eq_true rfl) (Nat.le_of_ble_eq_true rfl) (T_i_X9 h (by decide) sgC_16) (kk_ev (fun M h => ?_))
  refine c_aast (t := 0) 10 dX2_init_113 h (by decide) sgC_2 (fun _ => rfl) (by decide) sgC_16 rfl (by decide) (by decide) ?_
  clear h M
  intro M h
  refine j_iinc 0 11 (L' := [(1, .int 11), (0, .ref 1)]) dX2_init_114 rfl (by decide) (by decide) rfl ?_
  refine j_goto (tgt := 92) dX2_init_117 rfl ?_
  refine j_iload_n 0 dX2_init_92 rfl ?_
  refine j_aload_n 1 dX2_init_93 rfl ?_
  refine j_getr (q := 2) dX2_init_94 fX2_44 (h.sh (by decide) sgC_1) rfl (h.rd rfl) ?_
  refine j_alen dX2_init_97 (h.sh (by decide) sgC_2) (by decide) ?_
  refine j_icmp_geN (tgt := 120) 11 16 dX2_init_98 rfl (by decide) (by decide) (fun c => absurd c (by decide)) (fun c => ?_)
  refine j_aload_n 1 dX2_init_101 rfl ?_
  refine j_getr (q := 2) dX2_init_102 fX2_44 (h.sh (by decide) sgC_1) rfl (h.rd rfl) ?_
  refine j_iload_n 0 dX2_init_105 rfl ?_
  refine c_new (kc := 10) (ks := 40) dX2_init_106 rfl nwX2_42 h sgC_17 (by decide) ?_
  clear h M
  intro M h
  refine j_dup dX2_init_109 rfl ?_
  refine j_callIN (kc := 10) (ks := 40) (a := 0) (b := 0) (d' := d) (As := []) (o := 17) dX2_init_110 kX2_61 rfl (by omega) rfl rfl rfl (Nat.le_of_ble_eq_true rfl) (Nat.le_of_ble_eq_true rfl) (T_i_X9 h (by decide) sgC_17) (kk_ev (fun M h => ?_))
  refine c_aast (t := 0) 11 dX2_init_113 h (by decide) sgC_2 (fun _ => rfl) (by decide) sgC_17 rfl (by decide) (by decide) ?_
  clear h M
  intro M h
  refine j_iinc 0 12 (L' := [(1, .int 12), (0, .ref 1)]) dX2_init_114 rfl (by decide) (by decide) rfl ?_
  refine j_goto (tgt := 92) dX2_init_117 rfl ?_
  refine j_iload_n 0 dX2_init_92 rfl ?_
  refine j_aload_n 1 dX2_init_93 rfl ?_
  refine j_getr (q := 2) dX2_init_94 fX2_44 (h.sh (by decide) sgC_1) rfl (h.rd rfl) ?_
  refine j_alen dX2_init_97 (h.sh (by decide) sgC_2) (by decide) ?_
  refine j_icmp_geN (tgt := 120) 12 16 dX2_init_98 rfl (by decide) (by decide) (fun c => absurd c (by decide)) (fun c => ?_)
  refine j_aload_n 1 dX2_init_101 rfl ?_
  refine j_getr (q := 2) dX2_init_102 fX2_44 (h.sh (by decide) sgC_1) rfl (h.rd rfl) ?_
  refine j_iload_n 0 dX2_init_105 rfl ?_
  refine c_new (kc := 9) (ks := 36) dX2_init_106 rfl nwX2_42 h sgC_18 (by decide) ?_
  clear h M
  intro M h
  refine j_dup dX2_init_109 rfl ?_
  refine j_callIN (kc := 9) (ks := 36) (a := 0) (b := 0) (d' := d) (As := []) (o := 18) dX2_init_110 kX2_61 rfl (by omega) rfl rfl rfl (Nat.le_of_ble_eq_true rfl) (Nat.le_of_ble_eq_true rfl) (T_i_X9 h (by decide) sgC_18) (kk_ev (fun M h => ?_))
  refine c_aast (t := 0) 12 dX2_init_113 h (by decide) sgC_2 (fun _ => rfl) (by decide) sgC_18 rfl (by decide) (by decide) ?_
  clear h M
  intro M h
  refine j_iinc 0 13 (L' := [(1, .int 13), (0, .ref 1)]) dX2_init_114 rfl (by decide) (by decide) rfl ?_
  refine j_goto (tgt := 92) dX2_init_117 rfl ?_
  refine j_iload_n 0 dX2_init_92 rfl ?_
  refine j_aload_n 1 dX2_init_93 rfl ?_
  refine j_getr (q := 2) dX2_init_94 fX2_44 (h.sh (by decide) sgC_1) rfl (h.rd rfl) ?_
  refine j_alen dX2_init_97 (h.sh (by decide) sgC_2) (by decide) ?_
  refine j_icmp_geN (tgt := 120) 13 16 dX2_init_98 rfl (by decide) (by decide) (fun c => absurd c (by decide)) (fun c => ?_)
  refine j_aload_n 1 dX2_init_101 rfl ?_
  refine j_getr (q := 2) dX2_init_102 fX2_44 (h.sh (by decide) sgC_1) rfl (h.rd rfl) ?_
  refine j_iload_n 0 dX2_init_105 rfl ?_
  refine c_new (kc := 8) (ks := 32) dX2_init_106 rfl nwX2_42 h sgC_19 (by decide) ?_
  clear h M
  intro M h
  refine j_dup dX2_init_109 rfl ?_
  refine j_callIN (kc := 8) (ks := 32) (a := 0) (b := 0) (d' := d) (As := []) (o := 19) dX2_init_110 kX2_61 rfl (by omega) rfl rfl rfl (Nat.le_of_ble_eq_true rfl) (Nat.le_of_ble_eq_true rfl) (T_i_X9 h (by decide) sgC_19) (kk_ev (fun M h => ?_))
  refine c_aast (t := 0) 13 dX2_init_113 h (by decide) sgC_2 (fun _ => rfl) (by decide) sgC_19 rfl (by decide) (by decide) ?_
  clear h M
  intro M h
  refine j_iinc 0 14 (L' := [(1, .int 14), (0, .ref 1)]) dX2_init_114 rfl (by decide) (by decide) rfl ?_
  refine j_goto (tgt := 92) dX2_init_117 rfl ?_
  refine j_iload_n 0 dX2_init_92 rfl ?_
  refine j_aload_n 1 dX2_init_93 rfl ?_
  refine j_getr (q := 2) dX2_init_94 fX2_44 (h.sh (by decide) sgC_1) rfl (h.rd rfl) ?_
  refine j_alen dX2_init_97 (h.sh (by decide) sgC_2) (by decide) ?_
  refine j_icmp_geN (tgt := 120) 14 16 dX2_init_98 rfl (by decide) (by decide) (fun c => absurd c (by decide)) (fun c => ?_)
  refine j_aload_n 1 dX2_init_101 rfl ?_
  refine j_getr (q := 2) dX2_init_102 fX2_44 (h.sh (by decide) sgC_1) rfl (h.rd rfl) ?_
  refine j_iload_n 0 dX2_init_105 rfl ?_
  refine c_new (kc := 7) (ks := 28) dX2_init_106 rfl nwX2_42 h sgC_20 (by decide) ?_
  clear h M
  intro M h
  refine j_dup dX2_init_109 rfl ?_
  refine j_callIN (kc := 7) (ks := 28) (a := 0) (b := 0) (d' := d) (As := []) (o := 20) dX2_init_110 kX2_61 rfl (by omega) rfl rfl rfl (Nat.le_of_ble_eq_true rfl) (Nat.le_of_ble_eq_true rfl) (T_i_X9 h (by decide) sgC_20) (kk_ev (fun M h => ?_))
  refine c_aast (t := 0) 14 dX2_init_113 h (by decide) sgC_2 (fun _ => rfl) (by decide) sgC_20 rfl (by decide) (by decide) ?_
  clear h M
  intro M h
  refine j_iinc 0 15 (L' := [(1, .int 15), (0, .ref 1)]) dX2_init_114 rfl (by decide) (by decide) rfl ?_
  refine j_goto (tgt := 92) dX2_init_117 rfl ?_
  refine j_iload_n 0 dX2_init_92 rfl ?_
  refine j_aload_n 1 dX2_init_93 rfl ?_
  refine j_getr (q := 2) dX2_init_94 fX2_44 (h.sh (by decide) sgC_1) rfl (h.rd rfl) ?_
  refine j_alen dX2_init_97 (h.sh (by decide) sgC_2) (by decide) ?_
  refine j_icmp_geN (tgt := 120) 15 16 dX2_init_98 rfl (by decide) (by decide) (fun c => absurd c (by decide)) (fun c => ?_)
  refine j_aload_n 1 dX2_init_101 rfl ?_
  refine j_getr (q := 2) dX2_init_102 fX2_44 (h.sh (by decide) sgC_1) rfl (h.rd rfl) ?_
  refine j_iload_n 0 dX2_init_105 rfl ?_
  refine c_new (kc := 6) (ks := 24) dX2_init_106 rfl nwX2_42 h sgC_21 (by decide) ?_
  clear h M
  intro M h
  refine j_dup dX2_init_109 rfl ?_
  refine j_callIN (kc := 6) (ks := 24) (a := 0) (b := 0) (d' := d) (As := []) (o := 21) dX2_init_110 kX2_61 rfl (by omega) rfl rfl rfl (Nat.le_of_ble_eq_true rfl) (Nat.le_of_ble_eq_true rfl) (T_i_X9 h (by decide) sgC_21) (kk_ev (fun M h => ?_))
  refine c_aast (t := 0) 15 dX2_init_113 h (by decide) sgC_2 (fun _ => rfl) (by decide) sgC_21 rfl (by decide) (by decide) ?_
  clear h M
  intro M h
  refine j_iinc 0 16 (L' := [(1, .int 16), (0, .ref 1)]) dX2_init_114 rfl (by decide) (by decide) rfl ?_
  refine j_goto (tgt := 92) dX2_init_117 rfl ?_
  refine j_iload_n 0 dX2_init_92 rfl ?_
  refine j_aload_n 1 dX2_init_93 rfl ?_
  refine j_getr (q := 2) dX2_init_94 fX2_44 (h.sh (by decide) sgC_1) rfl (h.rd rfl) ?_
  refine j_alen dX2_init_97 (h.sh (by decide) sgC_2) (by decide) ?_
  refine j_icmp_geN (tgt := 120) 16 16 dX2_init_98 rfl (by decide) (by decide) (fun c => ?_) (fun c => absurd c (by decide))
  refine j_iconst 0 dX2_init_120 ic_0 ?_
  refine j_istore_n (L' := [(1, .int 0), (0, .ref 1)]) dX2_init_121 (by decide) rfl ?_
  refine j_iload_n 0 dX2_init_122 rfl ?_
  refine j_aload_n 1 dX2_init_123 rfl ?_
  refine j_getr (q := 3) dX2_init_124 fX2_50 (h.sh (by decide) sgC_1) rfl (h.rd rfl) ?_
  refine j_alen dX2_init_127 (h.sh (by decide) sgC_3) (by decide) ?_
  refine j_icmp_geN (tgt := 150) 0 6 dX2_init_128 rfl (by decide) (by decide) (fun c => absurd c (by decide)) (fun c => ?_)
  refine j_aload_n 1 dX2_init_131 rfl ?_
  refine j_getr (q := 3) dX2_init_132 fX2_50 (h.sh (by decide) sgC_1) rfl (h.rd rfl) ?_
  refine j_iload_n 0 dX2_init_135 rfl ?_
  refine c_new (kc := 5) (ks := 20) dX2_init_136 rfl nwX2_48 h sgC_22 (by decide) ?_
  clear h M
  intro M h
  refine j_dup dX2_init_139 rfl ?_
  refine j_callIN (kc := 5) (ks := 20) (a := 0) (b := 0) (d' := d) (As := []) (o := 22) dX2_init_140 kX2_62 rfl (by omega) rfl rfl rfl (Nat.le_of_ble_eq_true rfl) (Nat.le_of_ble_eq_true rfl) (T_i_X1 h (by decide) sgC_22) (kk_ev (fun M h => ?_))
  refine c_aast (t := 1) 0 dX2_init_143 h (by decide) sgC_3 (fun _ => rfl) (by decide) sgC_22 rfl (by decide) (by decide) ?_
  clear h M
  intro M h
  refine j_iinc 0 1 (L' := [(1, .int 1), (0, .ref 1)]) dX2_init_144 rfl (by decide) (by decide) rfl ?_
  refine j_goto (tgt := 122) dX2_init_147 rfl ?_
  refine j_iload_n 0 dX2_init_122 rfl ?_
  refine j_aload_n 1 dX2_init_123 rfl ?_
  refine j_getr (q := 3) dX2_init_124 fX2_50 (h.sh (by decide) sgC_1) rfl (h.rd rfl) ?_
  refine j_alen dX2_init_127 (h.sh (by decide) sgC_3) (by decide) ?_
  refine j_icmp_geN (tgt := 150) 1 6 dX2_init_128 rfl (by decide) (by decide) (fun c => absurd c (by decide)) (fun c => ?_)
  refine j_aload_n 1 dX2_init_131 rfl ?_
  refine j_getr (q := 3) dX2_init_132 fX2_50 (h.sh (by decide) sgC_1) rfl (h.rd rfl) ?_
  refine j_iload_n 0 dX2_init_135 rfl ?_
  refine c_new (kc := 4) (ks := 16) dX2_init_136 rfl nwX2_48 h sgC_23 (by decide) ?_
  clear h M
  intro M h
  refine j_dup dX2_init_139 rfl ?_
  refine j_callIN (kc := 4) (ks := 16) (a := 0) (b := 0) (d' := d) (As := []) (o := 23) dX2_init_140 kX2_62 rfl (by omega) rfl rfl rfl (Nat.le_of_ble_eq_true rfl) (Nat.le_of_ble_eq_true rfl) (T_i_X1 h (by decide) sgC_23) (kk_ev (fun M h => ?_))
  refine c_aast (t := 1) 1 dX2_init_143 h (by decide) sgC_3 (fun _ => rfl) (by decide) sgC_23 rfl (by decide) (by decide) ?_
  clear h M
  intro M h
  refine j_iinc 0 2 (L' := [(1, .int 2), (0, .ref 1)]) dX2_init_144 rfl (by decide) (by decide) rfl ?_
  refine j_goto (tgt := 122) dX2_init_147 rfl ?_
  refine j_iload_n 0 dX2_init_122 rfl ?_
  refine j_aload_n 1 dX2_init_123 rfl ?_
  refine j_getr (q := 3) dX2_init_124 fX2_50 (h.sh (by decide) sgC_1) rfl (h.rd rfl) ?_
  refine j_alen dX2_init_127 (h.sh (by decide) sgC_3) (by decide) ?_
  refine j_icmp_geN (tgt := 150) 2 6 dX2_init_128 rfl (by decide) (by decide) (fun c => absurd c (by decide)) (fun c => ?_)
  refine j_aload_n 1 dX2_init_131 rfl ?_
  refine j_getr (q := 3) dX2_init_132 fX2_50 (h.sh (by decide) sgC_1) rfl (h.rd rfl) ?_
  refine j_iload_n 0 dX2_init_135 rfl ?_
  refine c_new (kc := 3) (ks := 12) dX2_init_136 rfl nwX2_48 h sgC_24 (by decide) ?_
  clear h M
  intro M h
  refine j_dup dX2_init_139 rfl ?_
  refine j_callIN (kc := 3) (ks := 12) (a := 0) (b := 0) (d' := d) (As := []) (o := 24) dX2_init_140 kX2_62 rfl (by omega) rfl rfl rfl (Nat.le_of_ble_eq_true rfl) (Nat.le_of_ble_eq_true rfl) (T_i_X1 h (by decide) sgC_24) (kk_ev (fun M h => ?_))
  refine c_aast (t := 1) 2 dX2_init_143 h (by decide) sgC_3 (fun _ => rfl) (by decide) sgC_24 rfl (by decide) (by decide) ?_
  clear h M
  intro M h
  refine j_iinc 0 3 (L' := [(1, .int 3), (0, .ref 1)]) dX2_init_144 rfl (by decide) (by decide) rfl ?_
  refine j_goto (tgt := 122) dX2_init_147 rfl ?_
  refine j_iload_n 0 dX2_init_122 rfl ?_
  refine j_aload_n 1 dX2_init_123 rfl ?_
  refine j_getr (q := 3) dX2_init_124 fX2_50 (h.sh (by decide) sgC_1) rfl (h.rd rfl) ?_
  refine j_alen dX2_init_127 (h.sh (by decide) sgC_3) (by decide) ?_
  refine j_icmp_geN (tgt := 150) 3 6 dX2_init_128 rfl (by decide) (by decide) (fun c => absurd c (by decide)) (fun c => ?_)
  refine j_aload_n 1 dX2_init_131 rfl ?_
  refine j_getr (q := 3) dX2_init_132 fX2_50 (h.sh (by decide) sgC_1) rfl (h.rd rfl) ?_
  refine j_iload_n 0 dX2_init_135 rfl ?_
  refine c_new (kc := 2) (ks := 8) dX2_init_136 rfl nwX2_48 h sgC_25 (by decide) ?_
  clear h M
  intro M h
  refine j_dup dX2_init_139 rfl ?_
  refine j_callIN (kc := 2) (ks := 8) (a := 0) (b := 0) (d' := d) (As := []) (o := 25) dX2_init_140 kX2_62 rfl (by omega) rfl rfl rfl (Nat.le_of_ble_eq_true rfl) (Nat.le_of_ble_eq_true rfl) (T_i_X1 h (by decide) sgC_25) (kk_ev (fun M h => ?_))
  refine c_aast (t := 1) 3 dX2_init_143 h (by decide) sgC_3 (fun _ => rfl) (by decide) sgC_25 rfl (by decide) (by decide) ?_
  clear h M
  intro M h
  refine j_iinc 0 4 (L' := [(1, .int 4), (0, .ref 1)]) dX2_init_144 rfl (by decide) (by decide) rfl ?_
  refine j_goto (tgt := 122) dX2_init_147 rfl ?_
  refine j_iload_n 0 dX2_init_122 rfl ?_
  refine j_aload_n 1 dX2_init_123 rfl ?_
  refine j_getr (q := 3) dX2_init_124 fX2_50 (h.sh (by decide) sgC_1) rfl (h.rd rfl) ?_
  refine j_alen dX2_init_127 (h.sh (by decide) sgC_3) (by decide) ?_
  refine j_icmp_geN (tgt := 150) 4 6 dX2_init_128 rfl (by decide) (by decide) (fun c => absurd c (by decide)) (fun c => ?_)
  refine j_aload_n 1 dX2_init_131 rfl ?_
  refine j_getr (q := 3) dX2_init_132 fX2_50 (h.sh (by decide) sgC_1) rfl (h.rd rfl) ?_
  refine j_iload_n 0 dX2_init_135 rfl ?_
  refine c_new (kc := 1) (ks := 4) dX2_init_136 rfl nwX2_48 h sgC_26 (by decide) ?_
  clear h M
  intro M h
  refine j_dup dX2_init_139 rfl ?_
  refine j_callIN (kc := 1) (ks := 4) (a := 0) (b := 0) (d' := d) (As := []) (o := 26) dX2_init_140 kX2_62 rfl (by omega) rfl rfl rfl (Nat.le_of_ble_eq_true rfl) (Nat.le_of_ble_eq_true rfl) (T_i_X1 h (by decide) sgC_26) (kk_ev (fun M h => ?_))
  refine c_aast (t := 1) 4 dX2_init_143 h (by decide) sgC_3 (fun _ => rfl) (by decide) sgC_26 rfl (by decide) (by decide) ?_
  clear h M
  intro M h
  refine j_iinc 0 5 (L' := [(1, .int 5), (0, .ref 1)]) dX2_init_144 rfl (by decide) (by decide) rfl ?_
  refine j_goto (tgt := 122) dX2_init_147 rfl ?_
  refine j_iload_n 0 dX2_init_122 rfl ?_
  refine j_aload_n 1 dX2_init_123 rfl ?_
  refine j_getr (q := 3) dX2_init_124 fX2_50 (h.sh (by decide) sgC_1) rfl (h.rd rfl) ?_
  refine j_alen dX2_init_127 (h.sh (by decide) sgC_3) (by decide) ?_
  refine j_icmp_geN (tgt := 150) 5 6 dX2_init_128 rfl (by decide) (by decide) (fun c => absurd c (by decide)) (fun c => ?_)
  refine j_aload_n 1 dX2_init_131 rfl ?_
  refine j_getr (q := 3) dX2_init_132 fX2_50 (h.sh (by decide) sgC_1) rfl (h.rd rfl) ?_
  refine j_iload_n 0 dX2_init_135 rfl ?_
  refine c_new (kc := 0) (ks := 0) dX2_init_136 rfl nwX2_48 h sgC_27 (by decide) ?_
  clear h M
  intro M h
  refine j_dup dX2_init_139 rfl ?_
  refine j_callIN (kc := 0) (ks := 0) (a := 0) (b := 0) (d' := d) (As := []) (o := 27) dX2_init_140 kX2_62 rfl (by omega) rfl rfl rfl (Nat.le_of_ble_eq_true rfl) (Nat.le_of_ble_eq_true rfl) (T_i_X1 h (by decide) sgC_27) (kk_ev (fun M h => ?_))
  refine c_aast (t := 1) 5 dX2_init_143 h (by decide) sgC_3 (fun _ => rfl) (by decide) sgC_27 rfl (by decide) (by decide) ?_
  clear h M
  intro M h
  refine j_iinc 0 6 (L' := [(1, .int 6), (0, .ref 1)]) dX2_init_144 rfl (by decide) (by decide) rfl ?_
  refine j_goto (tgt := 122) dX2_init_147 rfl ?_
  refine j_iload_n 0 dX2_init_122 rfl ?_
  refine j_aload_n 1 dX2_init_123 rfl ?_
  refine j_getr (q := 3) dX2_init_124 fX2_50 (h.sh (by decide) sgC_1) rfl (h.rd rfl) ?_
  refine j_alen dX2_init_127 (h.sh (by decide) sgC_3) (by decide) ?_
  refine j_icmp_geN (tgt := 150) 6 6 dX2_init_128 rfl (by decide) (by decide) (fun c => ?_) (fun c => absurd c (by decide))
  refine j_vret dX2_init_150 rfl ?_
  exact hQ _ _ ⟨rfl, h⟩
