theorem n160b : nI 160 = (160 : Int32) := by decide
set_option maxRecDepth 20000 in
set_option maxHeartbeats 4000000 in
theorem T_X8_clear {d : Nat} {M : jk_M} {b : Nat} (hC : WC M) (hb : isS b) : J Fr_X8_clear d 0 0 0 [(0, .ref b)] [] M (jk_is none (shClr M b)) := by
  refine j_post (fun Q hQ => ?_)
  refine j_aload_n 0 dX8_clear_0 rfl ?_
  refine j_iconst (-1) dX8_clear_1 ic_n1 ?_
  refine j_put dX8_clear_2 fX8_11 (shC hC (sgG hb)) rfl ?_
  refine j_aload_n 0 dX8_clear_5 rfl ?_
  refine j_iconst 0 dX8_clear_6 ic_0 ?_
  refine j_put dX8_clear_7 fX8_15 (shC hC (sgG hb)) rfl ?_
  refine j_aload_n 0 dX8_clear_10 rfl ?_
  refine j_iconst (-1) dX8_clear_11 ic_n1 ?_
  refine j_put dX8_clear_12 fX8_18 (shC hC (sgG hb)) rfl ?_
  refine j_vret dX8_clear_15 rfl ?_
  exact hQ _ _ ⟨rfl, rfl⟩
set_option maxRecDepth 20000 in
set_option maxHeartbeats 4000000 in
theorem T_X8_point {d : Nat} {M : jk_M} {b : Nat} (hC : WC M) (hb : isS b) (t : Int32) : J Fr_X8_point (d + 1) 0 0 0 [(0, .ref b), (1, .int t)] [] M (jk_is none (jk_wI (shClr M b) b 2 t)) := by
  refine j_post (fun Q hQ => ?_)
  refine j_aload_n 0 dX8_point_0 rfl ?_
  refine j_callV (kc := 0) (ks := 0) (a := 0) (b := 0) (d' := d) (As := []) dX8_point_1 kX8_25 rfl (shC hC (sgG hb)) (by omega) rfl rfl rfl (Nat.le_of_ble_eq_true rfl) (Nat.le_of_ble_eq_true rfl) (T_X8_clear hC hb) (kk_pv ?_)
  have hW1 : WC (shClr M b) := (show Sg (fun _ => True) (fun _ => True) M (shClr M b) from by first | exact Sg.rf.w trivial | exact ((Sg.rf.w trivial).w trivial) | exact ((Sg.rf.w trivial).w trivial).w trivial | exact (((Sg.rf.w trivial).w trivial).w trivial).w trivial | exact ((((Sg.rf.w trivial).w trivial).w trivial).w trivial).w trivial).C hC
  refine j_aload_n 0 dX8_point_4 rfl ?_
  refine j_iload_n 1 dX8_point_5 rfl ?_
  refine j_put dX8_point_6 fX8_18 (shC hW1 (sgG hb)) rfl ?_
  have hW2 : WC (jk_wI (shClr M b) b 2 t) := (show Sg (fun _ => True) (fun _ => True) M (jk_wI (shClr M b) b 2 t) from by first | exact Sg.rf.w trivial | exact ((Sg.rf.w trivial).w trivial) | exact ((Sg.rf.w trivial).w trivial).w trivial | exact (((Sg.rf.w trivial).w trivial).w trivial).w trivial | exact ((((Sg.rf.w trivial).w trivial).w trivial).w trivial).w trivial).C hC
  refine j_vret dX8_point_9 rfl ?_
  exact hQ _ _ ⟨rfl, rfl⟩
set_option maxRecDepth 20000 in
set_option maxHeartbeats 4000000 in
theorem T_X8_isRow {d : Nat} {M : jk_M} {b : Nat} (hC : WC M) (hb : isS b) : J Fr_X8_isRow d 0 0 0 [(0, .ref b)] [] M (jk_is (some (.int (bI (¬ M.2.1 b 0 = -1)))) M) := by
  refine j_post (fun Q hQ => ?_)
  refine j_aload_n 0 dX8_isRow_0 rfl ?_
  refine j_get dX8_isRow_1 fX8_11 (shC hC (sgG hb)) rfl ?_
  refine j_iconst (-1) dX8_isRow_4 ic_n1 ?_
  refine j_icmp_eq (tgt := 12) dX8_isRow_5 rfl (fun c1 => ?_) (fun c1 => ?_)
  · refine j_iconst 0 dX8_isRow_12 ic_0 ?_
    refine j_zret dX8_isRow_13 rfl rfl ?_
    exact hQ _ _ ⟨by rw [bI_f (not_not_intro (by assumption))], rfl⟩
  · refine j_iconst 1 dX8_isRow_8 ic_1 ?_
    refine j_goto (tgt := 13) dX8_isRow_9 rfl ?_
    refine j_zret dX8_isRow_13 rfl rfl ?_
    exact hQ _ _ ⟨by rw [bI_t (by assumption)], rfl⟩
set_option maxRecDepth 20000 in
set_option maxHeartbeats 4000000 in
theorem T_X8_has {d : Nat} {M : jk_M} {b : Nat} (hC : WC M) (hb : isS b) (i : Int32) : J Fr_X8_has d 0 0 0 [(0, .ref b), (1, .int i)] [] M (jk_is (some (.int (bI (shHas M b i)))) M) := by
  refine j_post (fun Q hQ => ?_)
  refine j_iload_n 1 dX8_has_0 rfl ?_
  refine j_if_lt (tgt := 25) dX8_has_1 rfl (fun c1 => ?_) (fun c1 => ?_)
  · refine j_iconst 0 dX8_has_25 ic_0 ?_
    refine j_zret dX8_has_26 rfl rfl ?_
    exact hQ _ _ ⟨by rw [bI_f (by clear hQ; grind [shHas, n160])], rfl⟩
  · refine j_iload_n 1 dX8_has_4 rfl ?_
    refine j_aload_n 0 dX8_has_5 rfl ?_
    refine j_get dX8_has_6 fX8_15 (shC hC (sgG hb)) rfl ?_
    refine j_icmp_ge (tgt := 25) dX8_has_9 rfl (fun c2 => ?_) (fun c2 => ?_)
    · refine j_iconst 0 dX8_has_25 ic_0 ?_
      refine j_zret dX8_has_26 rfl rfl ?_
      exact hQ _ _ ⟨by rw [bI_f (by clear hQ; grind [shHas, n160])], rfl⟩
    · refine j_iload_n 1 dX8_has_12 rfl ?_
      refine j_aload_n 0 dX8_has_13 rfl ?_
      refine j_getr (q := (b + 1)) dX8_has_14 fX8_21 (shC hC (sgG hb)) rfl (rfC hC (rfG3 hb) (nzG hb)) ?_
      refine j_alen dX8_has_17 (shC hC (sgG1 hb)) (by decide) ?_
      refine j_icmp_ge (tgt := 25) dX8_has_18 rfl (fun c3 => ?_) (fun c3 => ?_)
      · refine j_iconst 0 dX8_has_25 ic_0 ?_
        refine j_zret dX8_has_26 rfl rfl ?_
        exact hQ _ _ ⟨by rw [bI_f (by clear hQ; grind [shHas, n160])], rfl⟩
      · refine j_iconst 1 dX8_has_21 ic_1 ?_
        refine j_goto (tgt := 26) dX8_has_22 rfl ?_
        refine j_zret dX8_has_26 rfl rfl ?_
        exact hQ _ _ ⟨by rw [bI_t (by clear hQ; grind [shHas, n160])], rfl⟩
set_option maxRecDepth 20000 in
set_option maxHeartbeats 4000000 in
theorem T_X8_hasRun {d : Nat} {M : jk_M} {b : Nat} (hC : WC M) (hb : isS b) (i n : Int32) : J Fr_X8_hasRun d 0 0 0 [(0, .ref b), (1, .int i), (2, .int n)] [] M (jk_is (some (.int (bI (shRun M b i n)))) M) := by
  refine j_post (fun Q hQ => ?_)
  refine j_iload_n 1 dX8_hasRun_0 rfl ?_
  refine j_if_lt (tgt := 26) dX8_hasRun_1 rfl (fun c1 => ?_) (fun c1 => ?_)
  · refine j_iconst 0 dX8_hasRun_26 ic_0 ?_
    refine j_zret dX8_hasRun_27 rfl rfl ?_
    exact hQ _ _ ⟨by rw [bI_f (by clear hQ; grind [shRun])], rfl⟩
  · refine j_iload_n 2 dX8_hasRun_4 rfl ?_
    refine j_if_lt (tgt := 26) dX8_hasRun_5 rfl (fun c2 => ?_) (fun c2 => ?_)
    · refine j_iconst 0 dX8_hasRun_26 ic_0 ?_
      refine j_zret dX8_hasRun_27 rfl rfl ?_
      exact hQ _ _ ⟨by rw [bI_f (by clear hQ; grind [shRun])], rfl⟩
    · refine j_iload_n 1 dX8_hasRun_8 rfl ?_
      refine j_i2l dX8_hasRun_9 ?_
      refine j_iload_n 2 dX8_hasRun_10 rfl ?_
      refine j_i2l dX8_hasRun_11 ?_
      refine j_ladd dX8_hasRun_12 ?_
      refine j_aload_n 0 dX8_hasRun_13 rfl ?_
      refine j_get dX8_hasRun_14 fX8_15 (shC hC (sgG hb)) rfl ?_
      refine j_i2l dX8_hasRun_17 ?_
      refine j_lcmpgt (tgt := 26) dX8_hasRun_18 dX8_hasRun_19 rfl (fun c3 => ?_) (fun c3 => ?_)
      · refine j_iconst 0 dX8_hasRun_26 ic_0 ?_
        refine j_zret dX8_hasRun_27 rfl rfl ?_
        exact hQ _ _ ⟨by rw [bI_f (by clear hQ; grind [shRun])], rfl⟩
      · refine j_iconst 1 dX8_hasRun_22 ic_1 ?_
        refine j_goto (tgt := 27) dX8_hasRun_23 rfl ?_
        refine j_zret dX8_hasRun_27 rfl rfl ?_
        exact hQ _ _ ⟨by rw [bI_t (by clear hQ; grind [shRun])], rfl⟩
set_option maxRecDepth 20000 in
set_option maxHeartbeats 4000000 in
theorem T_X8_read {d : Nat} {M : jk_M} {b : Nat} (hC : WC M) (hb : isS b) (i : Int32) : J Fr_X8_read (d + 1) 0 0 0 [(0, .ref b), (1, .int i)] [] M (jk_is (some (.long (shRd M b i))) M) := by
  refine j_post (fun Q hQ => ?_)
  refine j_aload_n 0 dX8_read_0 rfl ?_
  refine j_iload_n 1 dX8_read_1 rfl ?_
  refine j_callV (kc := 0) (ks := 0) (a := 0) (b := 0) (d' := d) (As := [.int i]) dX8_read_2 kX8_43 rfl (shC hC (sgG hb)) (by omega) rfl rfl rfl (Nat.le_of_ble_eq_true rfl) (Nat.le_of_ble_eq_true rfl) (T_X8_has hC hb i) (kk_p ?_)
  refine j_if_eqB (p := (shHas M b i)) (tgt := 17) dX8_read_5 rfl (fun c1 => ?_) (fun c1 => ?_)
  · refine j_lconst 0 dX8_read_17 (by decide) ?_
    refine j_lret dX8_read_18 rfl ?_
    exact hQ _ _ ⟨by rw [shRd_f c1], rfl⟩
  · refine j_aload_n 0 dX8_read_8 rfl ?_
    refine j_getr (q := (b + 1)) dX8_read_9 fX8_21 (shC hC (sgG hb)) rfl (rfC hC (rfG3 hb) (nzG hb)) ?_
    refine j_iload_n 1 dX8_read_12 rfl ?_
    refine j_lald dX8_read_13 (shC hC (sgG1 hb)) (shHas.in c1) ?_
    refine j_goto (tgt := 18) dX8_read_14 rfl ?_
    refine j_lret dX8_read_18 rfl ?_
    exact hQ _ _ ⟨by rw [shRd_t c1], rfl⟩
set_option maxRecDepth 20000 in
set_option maxHeartbeats 4000000 in
theorem T_X8_tells {d : Nat} {M : jk_M} {b : Nat} (hC : WC M) (hb : isS b) (i : Int32) : J Fr_X8_tells (d + 1) 0 0 0 [(0, .ref b), (1, .int i)] [] M (jk_is (some (.int (shTl M b i))) M) := by
  refine j_post (fun Q hQ => ?_)
  refine j_aload_n 0 dX8_tells_0 rfl ?_
  refine j_iload_n 1 dX8_tells_1 rfl ?_
  refine j_callV (kc := 0) (ks := 0) (a := 0) (b := 0) (d' := d) (As := [.int i]) dX8_tells_2 kX8_43 rfl (shC hC (sgG hb)) (by omega) rfl rfl rfl (Nat.le_of_ble_eq_true rfl) (Nat.le_of_ble_eq_true rfl) (T_X8_has hC hb i) (kk_p ?_)
  refine j_if_eqB (p := (shHas M b i)) (tgt := 18) dX8_tells_5 rfl (fun c1 => ?_) (fun c1 => ?_)
  · refine j_iconst 0 dX8_tells_18 ic_0 ?_
    refine j_iret dX8_tells_19 rfl ?_
    exact hQ _ _ ⟨by rw [shTl_f c1], rfl⟩
  · refine j_aload_n 0 dX8_tells_8 rfl ?_
    refine j_getr (q := (b + 1)) dX8_tells_9 fX8_21 (shC hC (sgG hb)) rfl (rfC hC (rfG3 hb) (nzG hb)) ?_
    refine j_iload_n 1 dX8_tells_12 rfl ?_
    refine j_lald dX8_tells_13 (shC hC (sgG1 hb)) (shHas.in c1) ?_
    refine j_l2i dX8_tells_14 ?_
    refine j_goto (tgt := 19) dX8_tells_15 rfl ?_
    refine j_iret dX8_tells_19 rfl ?_
    exact hQ _ _ ⟨by rw [shTl_t c1], rfl⟩
set_option maxRecDepth 20000 in
set_option maxHeartbeats 4000000 in
theorem T_X8_cut {d : Nat} {M : jk_M} {b : Nat} (hC : WC M) (hb : isS b) (v : Int64) : J Fr_X8_cut d 0 0 0 [(0, .ref b), (1, .long v)] [] M (jk_is (some (.long (shCut (M.2.1 b 0) v))) M) := by
  refine j_post (fun Q hQ => ?_)
  refine j_aload_n 0 dX8_cut_0 rfl ?_
  refine j_get dX8_cut_1 fX8_11 (shC hC (sgG hb)) rfl ?_
  by_cases c2 : (M.2.1 b 0) = 0
  · refine j_tableIn (tgt := 32) dX8_cut_4 (by rw [c2]; decide) (by rw [c2]; decide) (off := 28) (by rw [c2]; decide) rfl ?_
    refine j_lload_n 1 dX8_cut_32 rfl ?_
    refine j_l2i dX8_cut_33 ?_
    refine j_i2b dX8_cut_34 ?_
    refine j_i2l dX8_cut_35 ?_
    refine j_lret dX8_cut_36 rfl ?_
    exact hQ _ _ ⟨by clear hQ; grind [shCut], rfl⟩
  by_cases c3 : (M.2.1 b 0) = 1
  · refine j_tableIn (tgt := 37) dX8_cut_4 (by rw [c3]; decide) (by rw [c3]; decide) (off := 33) (by rw [c3]; decide) rfl ?_
    refine j_lload_n 1 dX8_cut_37 rfl ?_
    refine j_l2i dX8_cut_38 ?_
    refine j_i2s dX8_cut_39 ?_
    refine j_i2l dX8_cut_40 ?_
    refine j_lret dX8_cut_41 rfl ?_
    exact hQ _ _ ⟨by clear hQ; grind [shCut], rfl⟩
  by_cases c4 : (M.2.1 b 0) = 2
  · refine j_tableIn (tgt := 42) dX8_cut_4 (by rw [c4]; decide) (by rw [c4]; decide) (off := 38) (by rw [c4]; decide) rfl ?_
    refine j_lload_n 1 dX8_cut_42 rfl ?_
    refine j_l2i dX8_cut_43 ?_
    refine j_i2l dX8_cut_44 ?_
    refine j_lret dX8_cut_45 rfl ?_
    exact hQ _ _ ⟨by clear hQ; grind [shCut], rfl⟩
  refine j_tableOut (tgt := 46) dX8_cut_4 (by have q0 := lv_neT c2 (a := 0) (by decide); have q1 := lv_neT c3 (a := 1) (by decide); have q2 := lv_neT c4 (a := 2) (by decide); omega) rfl ?_
  refine j_lload_n 1 dX8_cut_46 rfl ?_
  refine j_lret dX8_cut_47 rfl ?_
  exact hQ _ _ ⟨by clear hQ; grind [shCut], rfl⟩
set_option maxRecDepth 20000 in
set_option maxHeartbeats 4000000 in
theorem T_X8_write {d : Nat} {M : jk_M} {b : Nat} (hC : WC M) (hb : isS b) (i : Int32) (v : Int64) (hi : shHas M b i) : J Fr_X8_write (d + 1) 0 0 0 [(0, .ref b), (1, .int i), (2, .long v)] [] M (jk_is none (jk_wC M (b + 1) (vp_updL (M.2.2.1 (b + 1)) i.toNatClampNeg (shCut (M.2.1 b 0) v)))) := by
  refine j_post (fun Q hQ => ?_)
  refine j_aload_n 0 dX8_write_0 rfl ?_
  refine j_iload_n 1 dX8_write_1 rfl ?_
  refine j_callV (kc := 0) (ks := 0) (a := 0) (b := 0) (d' := d) (As := [.int i]) dX8_write_2 kX8_43 rfl (shC hC (sgG hb)) (by omega) rfl rfl rfl (Nat.le_of_ble_eq_true rfl) (Nat.le_of_ble_eq_true rfl) (T_X8_has hC hb i) (kk_p ?_)
  refine j_if_eqB (p := (shHas M b i)) (tgt := 19) dX8_write_5 rfl (fun c1 => ?_) (fun c1 => ?_)
  · exact absurd hi c1
  · refine j_aload_n 0 dX8_write_8 rfl ?_
    refine j_getr (q := (b + 1)) dX8_write_9 fX8_21 (shC hC (sgG hb)) rfl (rfC hC (rfG3 hb) (nzG hb)) ?_
    refine j_iload_n 1 dX8_write_12 rfl ?_
    refine j_aload_n 0 dX8_write_13 rfl ?_
    refine j_lload_n 2 dX8_write_14 rfl ?_
    refine j_callV (kc := 0) (ks := 0) (a := 0) (b := 0) (d' := d) (As := [.long v]) dX8_write_15 kX8_47 rfl (shC hC (sgG hb)) (by omega) rfl rfl rfl (Nat.le_of_ble_eq_true rfl) (Nat.le_of_ble_eq_true rfl) (T_X8_cut hC hb v) (kk_p ?_)
    refine j_last dX8_write_18 rfl (shC hC (sgG1 hb)) (shHas.in hi) ?_
    refine j_vret dX8_write_19 rfl ?_
    exact hQ _ _ ⟨rfl, rfl⟩
theorem wC_self {M : jk_M} {a : Nat} : M = (M.1, M.2.1, va_up M.2.2.1 a (M.2.2.1 a), M.2.2.2) := by
  have : va_up M.2.2.1 a (M.2.2.1 a) = M.2.2.1 := by
    funext j
    by_cases e : j = a
    · subst e; exact va_up_self _ _ _
    · exact va_up_ne _ _ e
  rw [this]
theorem wC_at {M : jk_M} {a : Nat} {f : Nat → Int64} : (jk_wC M a f).2.2.1 a = f := jk_up_s _ _ _
theorem wC_wC {M : jk_M} {a : Nat} {f g : Nat → Int64} : jk_wC (jk_wC M a f) a g = jk_wC M a g := by
  have : va_up (va_up M.2.2.1 a f) a g = va_up M.2.2.1 a g := by
    funext j
    by_cases e : j = a
    · subst e; rw [va_up_self, va_up_self]
    · rw [va_up_ne _ _ e, va_up_ne _ _ e, va_up_ne _ _ e]
  show (M.1, M.2.1, va_up (va_up M.2.2.1 a f) a g, M.2.2.2) = _
  rw [this]; rfl
set_option maxRecDepth 20000 in
set_option maxHeartbeats 4000000 in
theorem T_J7_fill_d0a16 {d : Nat} {M : jk_M} {a n : Nat} {v : Int64} (hC : WC M) (sg : jGC[a]? = some (2, n)) (hn : n < 2 ^ 31) : J Fr_J7_fill_d0a16 d 0 0 0 [(0, .ref a), (1, .long v)] [] M (jk_ex none (fun M1 => ∃ f, M1 = jk_wC M a f ∧ ∀ c, c < n → f c = v)) := by
  refine j_post (fun Q hQ => ?_)
  refine j_iconst 0 dJ7_fill_d0a16_0 ic_0 ?_
  refine j_istore_n (L' := [(3, .int 0), (0, .ref a), (1, .long v)]) dJ7_fill_d0a16_1 (by decide) rfl ?_
  refine j_aload_n 1 dJ7_fill_d0a16_2 rfl ?_
  refine j_alen dJ7_fill_d0a16_3 (shC hC sg) (by decide) ?_
  refine j_istore (L' := [(4, .int (nI n)), (3, .int 0), (0, .ref a), (1, .long v)]) dJ7_fill_d0a16_4 (by decide) rfl ?_
  refine j_mem (jk_wC M a (M.2.2.1 a)) (by simp [jk_wC]; exact wC_self) ?_
  have lp3 : ∀ (k1 : Nat) (i : Nat) (f : Nat → Int64), n - i < k1 → (i ≤ n) → (∀ c, c < i → f c = v) → J Fr_J7_fill_d0a16 d 0 0 6 [(0, .ref a), (1, .long v), (3, .int (nI i)), (4, .int (nI n))] [] (jk_wC M a f) Q := by
    intro k1
    induction k1 with
    | zero => intro i f hk; exact absurd hk (Nat.not_lt_zero _)
    | succ k1 ih2 =>
      intro i f hk1 hi hf
      refine j_iload_n 2 dJ7_fill_d0a16_6 rfl ?_
      refine j_iload 3 dJ7_fill_d0a16_7 rfl ?_
      refine j_icmp_geN (tgt := 22) i n dJ7_fill_d0a16_9 rfl (by omega) (by omega) (fun c4 => ?_) (fun c4 => ?_)
      · refine j_vret dJ7_fill_d0a16_22 rfl ?_
        exact hQ _ _ ⟨rfl, f, rfl, fun c hc => hf c (by omega)⟩
      · refine j_aload_n 0 dJ7_fill_d0a16_12 rfl ?_
        refine j_iload_n 2 dJ7_fill_d0a16_13 rfl ?_
        refine j_lload_n 1 dJ7_fill_d0a16_14 rfl ?_
        refine j_last dJ7_fill_d0a16_15 rfl (shC (Sg.C (P := fun _ => True) (PL := fun _ => True) (Sg.wc Sg.rf trivial) hC) sg) (vp_in_nI (by omega) (by omega)) ?_
        refine j_iinc 2 (nI (i + 1)) (L' := [(3, .int (nI (i + 1))), (0, .ref a), (1, .long v), (4, .int (nI n))]) dJ7_fill_d0a16_16 rfl (inc1 i) (by decide) rfl ?_
        refine j_goto (tgt := 6) dJ7_fill_d0a16_19 rfl ?_
        refine j_mem (jk_wC M a (vp_updL f i v)) (by rw [wC_at, wC_wC, nI_clamp (by omega)]) ?_
        exact j_sub (jk_pick [1, 2, 0, 3] rfl) (ih2 (i + 1) (vp_updL f i v) (by omega) (by omega) (fun c hc => by
          by_cases e : c = i
          · simp [vp_updL, e]
          · simp only [vp_updL, e, if_false]; exact hf c (by omega)))
  exact j_sub (jk_pick [2, 3, 1, 0] rfl) (lp3 _ 0 (M.2.2.1 a) (Nat.lt_succ_self _) (by omega) (fun c hc => absurd hc (Nat.not_lt_zero c)))
set_option maxRecDepth 20000 in
set_option maxHeartbeats 4000000 in
theorem T_X8_layRow {d : Nat} {M : jk_M} {b : Nat} (hC : WC M) (hb : isS b) (s n : Int32) (h0 : 0 ≤ n) (h1 : n ≤ 160) : J Fr_X8_layRow (d + 1) 0 0 0 [(0, .ref b), (1, .int s), (2, .int n)] [] M (jk_ex none (fun M1 => ∃ f, M1 = jk_wC (jk_wI (jk_wI (shClr M b) b 0 s) b 1 n) (b + 1) f ∧ ∀ c, c < 160 → f c = 0)) := by
  refine j_post (fun Q hQ => ?_)
  refine j_aload_n 0 dX8_layRow_0 rfl ?_
  refine j_callV (kc := 0) (ks := 0) (a := 0) (b := 0) (d' := d) (As := []) dX8_layRow_1 kX8_25 rfl (shC hC (sgG hb)) (by omega) rfl rfl rfl (Nat.le_of_ble_eq_true rfl) (Nat.le_of_ble_eq_true rfl) (T_X8_clear hC hb) (kk_pv ?_)
  have hW1 : WC (shClr M b) := (show Sg (fun _ => True) (fun _ => True) M (shClr M b) from by first | exact Sg.rf.w trivial | exact ((Sg.rf.w trivial).w trivial) | exact ((Sg.rf.w trivial).w trivial).w trivial | exact (((Sg.rf.w trivial).w trivial).w trivial).w trivial | exact ((((Sg.rf.w trivial).w trivial).w trivial).w trivial).w trivial).C hC
  refine j_aload_n 0 dX8_layRow_4 rfl ?_
  refine j_iload_n 1 dX8_layRow_5 rfl ?_
  refine j_put dX8_layRow_6 fX8_11 (shC hW1 (sgG hb)) rfl ?_
  have hW2 : WC (jk_wI (shClr M b) b 0 s) := (show Sg (fun _ => True) (fun _ => True) M (jk_wI (shClr M b) b 0 s) from by first | exact Sg.rf.w trivial | exact ((Sg.rf.w trivial).w trivial) | exact ((Sg.rf.w trivial).w trivial).w trivial | exact (((Sg.rf.w trivial).w trivial).w trivial).w trivial | exact ((((Sg.rf.w trivial).w trivial).w trivial).w trivial).w trivial).C hC
  refine j_aload_n 0 dX8_layRow_9 rfl ?_
  refine j_iconst 0 dX8_layRow_10 ic_0 ?_
  refine j_iload_n 2 dX8_layRow_11 rfl ?_
  refine j_aload_n 0 dX8_layRow_12 rfl ?_
  refine j_getr (q := (b + 1)) dX8_layRow_13 fX8_21 (shC hW2 (sgG hb)) rfl (rfC hW2 (rfG3 hb) (nzG hb)) ?_
  refine j_alen dX8_layRow_16 (shC hW2 (sgG1 hb)) (by decide) ?_
  refine j_min dX8_layRow_17 mX8_28 mt_min.1 mt_min.2.1 mt_min.2.2 (Nat.le_of_ble_eq_true rfl) ?_
  refine j_max dX8_layRow_20 mX8_34 mt_max.1 mt_max.2.1 mt_max.2.2 (Nat.le_of_ble_eq_true rfl) ?_
  refine j_topi n (by rw [n160]; clear hQ; grind) ?_
  refine j_put dX8_layRow_23 fX8_15 (shC hW2 (sgG hb)) rfl ?_
  have hW3 : WC (jk_wI (jk_wI (shClr M b) b 0 s) b 1 n) := (show Sg (fun _ => True) (fun _ => True) M (jk_wI (jk_wI (shClr M b) b 0 s) b 1 n) from by first | exact Sg.rf.w trivial | exact ((Sg.rf.w trivial).w trivial) | exact ((Sg.rf.w trivial).w trivial).w trivial | exact (((Sg.rf.w trivial).w trivial).w trivial).w trivial | exact ((((Sg.rf.w trivial).w trivial).w trivial).w trivial).w trivial).C hC
  refine j_aload_n 0 dX8_layRow_26 rfl ?_
  refine j_getr (q := (b + 1)) dX8_layRow_27 fX8_21 (shC hW3 (sgG hb)) rfl (rfC hW3 (rfG3 hb) (nzG hb)) ?_
  refine j_lconst 0 dX8_layRow_30 (by decide) ?_
  refine j_callS (kc := 0) (ks := 0) (a := 0) (b := 0) (d' := d) (As := [.ref (b + 1), .long 0]) dX8_layRow_31 kX8_37 rfl (by omega) rfl rfl rfl (Nat.le_of_ble_eq_true rfl) (Nat.le_of_ble_eq_true rfl) (T_J7_fill_d0a16 (n := 160) hW3 (sgG1 hb) (by omega)) (kk_ev (fun M4 hM5 => ?_))
  obtain ⟨f, hfe, hff⟩ := hM5
  refine j_vret dX8_layRow_34 rfl ?_
  exact hQ _ _ ⟨rfl, f, hfe, hff⟩
set_option maxRecDepth 20000 in
set_option maxHeartbeats 4000000 in
theorem T_X8_takeRun {d : Nat} {M : jk_M} {b b2 : Nat} (hC : WC M) (hb : isS b) (hb2 : isS b2) (i j n : Int32) (z : (M.2.1 b 1).toInt ≤ 160) (z2 : (M.2.1 b2 1).toInt ≤ 160) (hi : shRun M b2 i n) (hj : shRun M b j n) : J Fr_X8_takeRun (d + 1) 0 0 0 [(0, .ref b), (1, .ref b2), (2, .int i), (3, .int j), (4, .int n)] [] M (jk_is none (jk_wC M (b + 1) (va_cpy (M.2.2.1 (b2 + 1)) (M.2.2.1 (b + 1)) i.toNatClampNeg j.toNatClampNeg n.toNatClampNeg))) := by
  refine j_post (fun Q hQ => ?_)
  refine j_aload_n 1 dX8_takeRun_0 rfl ?_
  refine j_ifnull dX8_takeRun_1 ?_
  refine j_aload_n 1 dX8_takeRun_4 rfl ?_
  refine j_iload_n 2 dX8_takeRun_5 rfl ?_
  refine j_iload 4 dX8_takeRun_6 rfl ?_
  refine j_callV (kc := 0) (ks := 0) (a := 0) (b := 0) (d' := d) (As := [.int i, .int n]) dX8_takeRun_8 kX8_51 rfl (shC hC (sgG hb2)) (by omega) rfl rfl rfl (Nat.le_of_ble_eq_true rfl) (Nat.le_of_ble_eq_true rfl) (T_X8_hasRun hC hb2 i n) (kk_p ?_)
  refine j_if_eqB (p := (shRun M b2 i n)) (tgt := 39) dX8_takeRun_11 rfl (fun c1 => ?_) (fun c1 => ?_)
  · exact absurd hi c1
  · refine j_aload_n 0 dX8_takeRun_14 rfl ?_
    refine j_iload_n 3 dX8_takeRun_15 rfl ?_
    refine j_iload 4 dX8_takeRun_16 rfl ?_
    refine j_callV (kc := 0) (ks := 0) (a := 0) (b := 0) (d' := d) (As := [.int j, .int n]) dX8_takeRun_18 kX8_51 rfl (shC hC (sgG hb)) (by omega) rfl rfl rfl (Nat.le_of_ble_eq_true rfl) (Nat.le_of_ble_eq_true rfl) (T_X8_hasRun hC hb j n) (kk_p ?_)
    refine j_if_eqB (p := (shRun M b j n)) (tgt := 39) dX8_takeRun_21 rfl (fun c2 => ?_) (fun c2 => ?_)
    · exact absurd hj c2
    · refine j_aload_n 1 dX8_takeRun_24 rfl ?_
      refine j_getr (q := (b2 + 1)) dX8_takeRun_25 fX8_21 (shC hC (sgG hb2)) rfl (rfC hC (rfG3 hb2) (nzG hb2)) ?_
      refine j_iload_n 2 dX8_takeRun_28 rfl ?_
      refine j_aload_n 0 dX8_takeRun_29 rfl ?_
      refine j_getr (q := (b + 1)) dX8_takeRun_30 fX8_21 (shC hC (sgG hb)) rfl (rfC hC (rfG3 hb) (nzG hb)) ?_
      refine j_iload_n 3 dX8_takeRun_33 rfl ?_
      refine j_iload 4 dX8_takeRun_34 rfl ?_
      refine j_copyl dX8_takeRun_36 rfl mX8_55 ar_copy.1 ar_copy.2.1 ar_copy.2.2 (shC hC (sgG1 hb2)) (shC hC (sgG1 hb)) (hi.n z2).1 (hj.n z).1 (hi.n z2).2.1 (hi.n z2).2.2 (hj.n z).2.2 (Nat.le_of_ble_eq_true rfl) ?_
      refine j_vret dX8_takeRun_39 rfl ?_
      exact hQ _ _ ⟨rfl, rfl⟩
