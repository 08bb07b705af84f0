/-! the model's small ones -/
section MR
variable {I : Nat → Nat → Int32} {S : HS}
theorem mr_side (hS : mv I = S) : I 0 3 = S 0 0 := mvs hS (a := 0) (by decide)
theorem mr_pow (hS : mv I = S) : I 0 4 = S 1 0 := mvs hS (a := 1) (by decide)
theorem mr_cha (hS : mv I = S) : I 0 5 = S 2 0 := mvs hS (a := 2) (by decide)
theorem mr_min (hS : mv I = S) : I 0 6 = S 3 0 := mvs hS (a := 3) (by decide)
theorem mr_seed (hS : mv I = S) : I 0 7 = S 4 0 := mvs hS (a := 4) (by decide)
theorem mr_b0 (hS : mv I = S) : I 12 0 = S 5 0 := mvs hS (a := 5) (by decide)
theorem mr_b1 (hS : mv I = S) : I 12 1 = S 6 0 := mvs hS (a := 6) (by decide)
theorem mr_T (hS : mv I = S) : I 0 0 = S 7 0 := mvs hS (a := 7) (by decide)
theorem mr_N (hS : mv I = S) : I 0 1 = S 8 0 := mvs hS (a := 8) (by decide)
theorem mr_D (hS : mv I = S) : I 0 2 = S 9 0 := mvs hS (a := 9) (by decide)
theorem mr_arT (hS : mv I = S) {i k : Nat} (hi : i < nT S) (hk : k < 4) : I (2 + k) i = S (10 + k) i := mvT hS hi hk
theorem mr_arN (hS : mv I = S) {i k : Nat} (hi : i < nN S) (hk : k < 2) : I (6 + k) i = S (14 + k) i := mvN hS hi hk
theorem mr_arD (hS : mv I = S) {i k : Nat} (hi : i < nD S) (hk : k < 4) : I (8 + k) i = S (16 + k) i := mvD hS hi hk
end MR
/-- the house but for kinds and a: as where a thing is away in thought -/
def EqT (S T : HS) : Prop := ∀ a i, a ≠ 10 → a ≠ 11 → T a i = S a i
def MEq (I : Nat → Nat → Int32) (T : HS) : Prop := ∃ S, mv I = S ∧ EqT S T
theorem MEq.of {I : Nat → Nat → Int32} {S : HS} (h : mv I = S) : MEq I S := ⟨S, h, fun _ _ _ _ => rfl⟩
section ER
variable {I : Nat → Nat → Int32} {S : HS}
theorem er_side (h : MEq I S) : I 0 3 = S 0 0 := by obtain ⟨R, h, e⟩ := h; rw [e 0 0 (by decide) (by decide)]; exact mr_side h
theorem er_pow (h : MEq I S) : I 0 4 = S 1 0 := by obtain ⟨R, h, e⟩ := h; rw [e 1 0 (by decide) (by decide)]; exact mr_pow h
theorem er_cha (h : MEq I S) : I 0 5 = S 2 0 := by obtain ⟨R, h, e⟩ := h; rw [e 2 0 (by decide) (by decide)]; exact mr_cha h
theorem er_min (h : MEq I S) : I 0 6 = S 3 0 := by obtain ⟨R, h, e⟩ := h; rw [e 3 0 (by decide) (by decide)]; exact mr_min h
theorem er_b0 (h : MEq I S) : I 12 0 = S 5 0 := by obtain ⟨R, h, e⟩ := h; rw [e 5 0 (by decide) (by decide)]; exact mr_b0 h
theorem er_b1 (h : MEq I S) : I 12 1 = S 6 0 := by obtain ⟨R, h, e⟩ := h; rw [e 6 0 (by decide) (by decide)]; exact mr_b1 h
theorem er_T (h : MEq I S) : I 0 0 = S 7 0 := by obtain ⟨R, h, e⟩ := h; rw [e 7 0 (by decide) (by decide)]; exact mr_T h
theorem er_N (h : MEq I S) : I 0 1 = S 8 0 := by obtain ⟨R, h, e⟩ := h; rw [e 8 0 (by decide) (by decide)]; exact mr_N h
theorem er_D (h : MEq I S) : I 0 2 = S 9 0 := by obtain ⟨R, h, e⟩ := h; rw [e 9 0 (by decide) (by decide)]; exact mr_D h
theorem er_arN (h : MEq I S) {i k : Nat} (hi : i < nN S) (hk : k < 2) : I (6 + k) i = S (14 + k) i := by
  obtain ⟨R, h, e⟩ := h
  have hi : i < nN R := by simp only [nN] at hi ⊢; rw [← e 8 0 (by decide) (by decide)]; exact hi
  rw [e (14 + k) i (by omega) (by omega)]; exact mvN h hi hk
theorem er_arD (h : MEq I S) {i k : Nat} (hi : i < nD S) (hk : k < 4) : I (8 + k) i = S (16 + k) i := by
  obtain ⟨R, h, e⟩ := h
  have hi : i < nD R := by simp only [nD] at hi ⊢; rw [← e 9 0 (by decide) (by decide)]; exact hi
  rw [e (16 + k) i (by omega) (by omega)]; exact mvD h hi hk
end ER
theorem Fm.me {P : Nat → Nat → Prop} {M M' : jk_M} {T : HS} (x : Fm P M M') (h : MEq M.2.1 T) (hp : ∀ q k, PH q k → ¬ P q k) : MEq M'.2.1 T := by
  obtain ⟨R, h, e⟩ := h; exact ⟨R, x.mv h hp, e⟩
def apa (v w : Int32) : Int32 := if w < v then v - w else w - v
theorem apa_e {a b : Nat} (ha : a < 1000) (hb : b < 1000) : apa (nI a) (nI b) = jabs (nI a - nI b) := by
  unfold apa jabs
  by_cases h : b < a
  · rw [if_pos ((nI_ltI (by omega) (by omega)).mpr h), pk_sub (by omega), if_pos (nI_pos' (by omega))]
  · rw [if_neg (fun z => h ((nI_ltI (by omega) (by omega)).mp z))]
    by_cases e : a = b
    · subst e; simp
    · have h1 : nI b - nI a = nI (b - a) := pk_sub (by omega)
      have h2 : nI a - nI b = 0 - nI (b - a) := by rw [← h1]; simp
      have h3 : ¬ 0 ≤ nI a - nI b := by
        rw [h2]
        obtain ⟨d, hd, hd1⟩ : ∃ d, b - a = d ∧ 1 ≤ d ∧ d < 1000 := ⟨b - a, rfl, by omega, by omega⟩
        rw [hd, Int32.le_iff_toInt_le]
        have e1 : (nI d).toInt = d := nI_toInt (by omega)
        have e2 : (0 - nI d).toInt = -(d : Int) := by
          have := Jvm.Kit.i32_sub (x := 0) (y := nI d) (by rw [e1]; show -2147483648 ≤ (0 : Int) - d; omega) (by rw [e1]; show (0 : Int) - d < 2147483648; omega)
          rw [this, e1]; show (0 : Int) - d = _; omega
        rw [e2]
        show ¬ (0 : Int) ≤ -(d : Int)
        omega
      rw [if_neg h3]; simp
theorem isP_n {c : Int32} (h : isP c) : ∃ n, n < 80 ∧ c = nI n := ⟨_, (isP_nat h).2, (isP_nat h).1⟩
def hf2 (c : Int32) : Int32 := c - c / 10 * 10
theorem far_e {c e : Int32} (hc : isP c) (he : isP e) : apa (c / 10) (e / 10) + apa (c - c / 10 * 10) (e - e / 10 * 10) = sfar c e := by
  obtain ⟨a, ha, rfl⟩ := isP_n hc
  obtain ⟨b, hb, rfl⟩ := isP_n he
  unfold sfar
  rw [show (10 : Int32) = nI 10 from rfl, pk_rem (by omega) (by decide) (by decide), pk_rem (by omega) (by decide) (by decide), pk_div (by omega) (by decide) (by decide), pk_div (by omega) (by decide) (by decide), apa_e (by omega) (by omega), apa_e (by omega) (by omega)]
theorem sfar_n {c e : Int32} (hc : isP c) (he : isP e) : ∃ n, n < 40 ∧ sfar c e = nI n := by
  obtain ⟨a, ha, rfl⟩ := isP_n hc
  obtain ⟨b, hb, rfl⟩ := isP_n he
  have h1 : ∀ x y : Nat, x < 20 → y < 20 → ∃ n, n < 20 ∧ jabs (nI x - nI y) = nI n := fun x y hx hy => by
    rw [← apa_e (by omega) (by omega)]
    unfold apa
    split
    · exact ⟨x - y, by omega, by rename_i h; rw [nI_ltI (by omega) (by omega)] at h; exact pk_sub (by omega)⟩
    · exact ⟨y - x, by omega, by rename_i h; rw [nI_ltI (by omega) (by omega)] at h; exact pk_sub (by omega)⟩
  unfold sfar
  rw [show (10 : Int32) = nI 10 from rfl, pk_rem (by omega) (by decide) (by decide), pk_rem (by omega) (by decide) (by decide), pk_div (by omega) (by decide) (by decide), pk_div (by omega) (by decide) (by decide)]
  obtain ⟨n, hn, e1⟩ := h1 (a / 10) (b / 10) (by omega) (by omega)
  obtain ⟨m, hm, e2⟩ := h1 (a % 10) (b % 10) (by omega) (by omega)
  exact ⟨n + m, by omega, by rw [e1, e2, nI_add]⟩
theorem in13 {x : Int32} (h : inB x 1 13) : ∃ n, n < 20 ∧ x = nI n := by obtain ⟨n, -, h2, e⟩ := h; exact ⟨n, by omega, e⟩
theorem noise_e {n x y : Int32} (hx : inB x 1 13) (hy : inB y 1 13) : (if 5 - apa x y ≤ 0 then 0 else n * (5 - apa x y) / 5) = noiseO n (x - y) := by
  obtain ⟨a, ha, rfl⟩ := in13 hx
  obtain ⟨b, hb, rfl⟩ := in13 hy
  rw [apa_e (by omega) (by omega)]
  unfold noiseO jmax
  by_cases h : 0 < 5 - jabs (nI a - nI b)
  · rw [if_pos h, if_neg (Int32.not_le.mpr h)]
  · rw [if_neg h, if_pos (Int32.not_lt.mp h)]
    have e : n * 0 = 0 := by simp
    rw [e]; decide
theorem kd7 {x : Int32} (h : inB x 0 6) : x = 0 ∨ x = 1 ∨ x = 2 ∨ x = 3 ∨ x = 4 ∨ x = 5 ∨ x = 6 := by
  obtain ⟨n, -, h2, rfl⟩ := h
  have : n = 0 ∨ n = 1 ∨ n = 2 ∨ n = 3 ∨ n = 4 ∨ n = 5 ∨ n = 6 := by omega
  rcases this with rfl | rfl | rfl | rfl | rfl | rfl | rfl <;> decide
theorem mr_B {S : HS} (ok : Sok S) : inB (S 2 0) 1 13 := ok.2.2.1
set_option maxRecDepth 20000 in
set_option maxHeartbeats 4000000 in
theorem T_X11_apart {d : Nat} {M : jk_M} (v w : Int32) : J Fr_X11_apart d 0 0 0 [(0, .ref 0), (1, .int v), (2, .int w)] [] M (jk_is (some (.int (apa v w))) M) := by
  refine j_post (fun Q hQ => ?_)
  refine j_iload_n 1 dX11_apart_0 rfl ?_
  refine j_iload_n 2 dX11_apart_1 rfl ?_
  refine j_icmp_le (tgt := 11) dX11_apart_2 rfl (fun c1 => ?_) (fun c1 => ?_)
  · refine j_iload_n 2 dX11_apart_11 rfl ?_
    refine j_iload_n 1 dX11_apart_12 rfl ?_
    refine j_isub dX11_apart_13 ?_
    refine j_iret dX11_apart_14 rfl ?_
    exact hQ _ _ ⟨by clear hQ; grind [apa], rfl⟩
  · refine j_iload_n 1 dX11_apart_5 rfl ?_
    refine j_iload_n 2 dX11_apart_6 rfl ?_
    refine j_isub dX11_apart_7 ?_
    refine j_goto (tgt := 14) dX11_apart_8 rfl ?_
    refine j_iret dX11_apart_14 rfl ?_
    exact hQ _ _ ⟨by clear hQ; grind [apa], rfl⟩
set_option maxRecDepth 20000 in
set_option maxHeartbeats 4000000 in
theorem T_X11_far {d : Nat} {M : jk_M} (hM : WM M) (c e : Int32) (hc : isP c) (he : isP e) : J Fr_X11_far (d + 1) 0 0 0 [(0, .ref 0), (1, .int c), (2, .int e)] [] M (jk_is (some (.int (sfar c e))) M) := by
  refine j_post (fun Q hQ => ?_)
  refine j_aload_n 0 dX11_far_0 rfl ?_
  refine j_iload_n 1 dX11_far_1 rfl ?_
  refine j_bipush 10 dX11_far_2 bp_10 ?_
  refine j_idiv dX11_far_4 (by decide) ?_
  refine j_iload_n 2 dX11_far_5 rfl ?_
  refine j_bipush 10 dX11_far_6 bp_10 ?_
  refine j_idiv dX11_far_8 (by decide) ?_
  refine j_callV (kc := 0) (ks := 0) (a := 0) (b := 0) (d' := d) (As := [.int (c / 10), .int (e / 10)]) dX11_far_9 kX11_239 rfl (shM hM sgM_0) (by omega) rfl rfl rfl (Nat.le_of_ble_eq_true rfl) (Nat.le_of_ble_eq_true rfl) (T_X11_apart (c / 10) (e / 10)) (kk_p ?_)
  refine j_aload_n 0 dX11_far_12 rfl ?_
  refine j_iload_n 1 dX11_far_13 rfl ?_
  refine j_bipush 10 dX11_far_14 bp_10 ?_
  refine j_irem dX11_far_16 (by decide) ?_
  refine j_iload_n 2 dX11_far_17 rfl ?_
  refine j_bipush 10 dX11_far_18 bp_10 ?_
  refine j_irem dX11_far_20 (by decide) ?_
  refine j_callV (kc := 0) (ks := 0) (a := 0) (b := 0) (d' := d) (As := [.int (c - c / 10 * 10), .int (e - e / 10 * 10)]) dX11_far_21 kX11_239 rfl (shM hM sgM_0) (by omega) rfl rfl rfl (Nat.le_of_ble_eq_true rfl) (Nat.le_of_ble_eq_true rfl) (T_X11_apart (c - c / 10 * 10) (e - e / 10 * 10)) (kk_p ?_)
  refine j_iadd dX11_far_24 ?_
  refine j_iret dX11_far_25 rfl ?_
  exact hQ _ _ ⟨by rw [← far_e hc he], rfl⟩
set_option maxRecDepth 20000 in
set_option maxHeartbeats 4000000 in
theorem T_X11_isFrom {d : Nat} {M : jk_M} (v a b : Int32) : J Fr_X11_isFrom d 0 0 0 [(0, .ref 0), (1, .int v), (2, .int a), (3, .int b)] [] M (jk_is (some (.int (bI (a ≤ v ∧ v ≤ b)))) M) := by
  refine j_post (fun Q hQ => ?_)
  refine j_iload_n 1 dX11_isFrom_0 rfl ?_
  refine j_iload_n 2 dX11_isFrom_1 rfl ?_
  refine j_icmp_lt (tgt := 14) dX11_isFrom_2 rfl (fun c1 => ?_) (fun c1 => ?_)
  · refine j_iconst 0 dX11_isFrom_14 ic_0 ?_
    refine j_zret dX11_isFrom_15 rfl rfl ?_
    exact hQ _ _ ⟨by rw [bI_f (by clear hQ; grind [])], rfl⟩
  · refine j_iload_n 1 dX11_isFrom_5 rfl ?_
    refine j_iload_n 3 dX11_isFrom_6 rfl ?_
    refine j_icmp_gt (tgt := 14) dX11_isFrom_7 rfl (fun c2 => ?_) (fun c2 => ?_)
    · refine j_iconst 0 dX11_isFrom_14 ic_0 ?_
      refine j_zret dX11_isFrom_15 rfl rfl ?_
      exact hQ _ _ ⟨by rw [bI_f (by clear hQ; grind [])], rfl⟩
    · refine j_iconst 1 dX11_isFrom_10 ic_1 ?_
      refine j_goto (tgt := 15) dX11_isFrom_11 rfl ?_
      refine j_zret dX11_isFrom_15 rfl rfl ?_
      exact hQ _ _ ⟨by rw [bI_t (by clear hQ; grind [])], rfl⟩
set_option maxRecDepth 20000 in
set_option maxHeartbeats 4000000 in
theorem T_X11_isShelf {d : Nat} {M : jk_M} (s : Int32) : J Fr_X11_isShelf d 0 0 0 [(0, .ref 0), (1, .int s)] [] M (jk_is (some (.int (bI (0 ≤ s ∧ s < 8)))) M) := by
  refine j_post (fun Q hQ => ?_)
  refine j_iload_n 1 dX11_isShelf_0 rfl ?_
  refine j_if_lt (tgt := 14) dX11_isShelf_1 rfl (fun c1 => ?_) (fun c1 => ?_)
  · refine j_iconst 0 dX11_isShelf_14 ic_0 ?_
    refine j_zret dX11_isShelf_15 rfl rfl ?_
    exact hQ _ _ ⟨by rw [bI_f (by clear hQ; grind [])], rfl⟩
  · refine j_iload_n 1 dX11_isShelf_4 rfl ?_
    refine j_bipush 8 dX11_isShelf_5 bp_8 ?_
    refine j_icmp_ge (tgt := 14) dX11_isShelf_7 rfl (fun c2 => ?_) (fun c2 => ?_)
    · refine j_iconst 0 dX11_isShelf_14 ic_0 ?_
      refine j_zret dX11_isShelf_15 rfl rfl ?_
      exact hQ _ _ ⟨by rw [bI_f (by clear hQ; grind [])], rfl⟩
    · refine j_iconst 1 dX11_isShelf_10 ic_1 ?_
      refine j_goto (tgt := 15) dX11_isShelf_11 rfl ?_
      refine j_zret dX11_isShelf_15 rfl rfl ?_
      exact hQ _ _ ⟨by rw [bI_t (by clear hQ; grind [])], rfl⟩
set_option maxRecDepth 20000 in
set_option maxHeartbeats 4000000 in
theorem T_X11_isThing {d : Nat} {M : jk_M} {S : HS} (hM : WM M) (hS : mv M.2.1 = S) (ok : Sok S) (t : Int32) : J Fr_X11_isThing d 0 0 0 [(0, .ref 0), (1, .int t)] [] M (jk_is (some (.int (bI (0 ≤ t ∧ t < nI (nT S))))) M) := by
  refine j_post (fun Q hQ => ?_)
  refine j_iload_n 1 dX11_isThing_0 rfl ?_
  refine j_if_lt (tgt := 16) dX11_isThing_1 rfl (fun c1 => ?_) (fun c1 => ?_)
  · refine j_iconst 0 dX11_isThing_16 ic_0 ?_
    refine j_zret dX11_isThing_17 rfl rfl ?_
    exact hQ _ _ ⟨by rw [bI_f (by clear hQ; grind [])], rfl⟩
  · refine j_iload_n 1 dX11_isThing_4 rfl ?_
    refine j_aload_n 0 dX11_isThing_5 rfl ?_
    refine j_getv (nI (nT S)) dX11_isThing_6 fX11_123 (shM hM sgM_0) rfl ((mr_T hS).trans (Sok.T ok).1) ?_
    refine j_icmp_ge (tgt := 16) dX11_isThing_9 rfl (fun c2 => ?_) (fun c2 => ?_)
    · refine j_iconst 0 dX11_isThing_16 ic_0 ?_
      refine j_zret dX11_isThing_17 rfl rfl ?_
      exact hQ _ _ ⟨by rw [bI_f (by clear hQ; grind [])], rfl⟩
    · refine j_iconst 1 dX11_isThing_12 ic_1 ?_
      refine j_goto (tgt := 17) dX11_isThing_13 rfl ?_
      refine j_zret dX11_isThing_17 rfl rfl ?_
      exact hQ _ _ ⟨by rw [bI_t (by clear hQ; grind [])], rfl⟩
set_option maxRecDepth 20000 in
set_option maxHeartbeats 4000000 in
theorem T_X11_isCell {d : Nat} {M : jk_M} {S : HS} (hM : WM M) (hS : mv M.2.1 = S) (ok : Sok S) (c : Int32) : J Fr_X11_isCell d 0 0 0 [(0, .ref 0), (1, .int c)] [] M (jk_is (some (.int (bI (isC S c)))) M) := by
  refine j_post (fun Q hQ => ?_)
  refine j_iload_n 1 dX11_isCell_0 rfl ?_
  refine j_if_lt (tgt := 30) dX11_isCell_1 rfl (fun c1 => ?_) (fun c1 => ?_)
  · refine j_iconst 0 dX11_isCell_30 ic_0 ?_
    refine j_zret dX11_isCell_31 rfl rfl ?_
    exact hQ _ _ ⟨by rw [bI_f (by clear hQ; grind [isC])], rfl⟩
  · refine j_iload_n 1 dX11_isCell_4 rfl ?_
    refine j_bipush 10 dX11_isCell_5 bp_10 ?_
    refine j_idiv dX11_isCell_7 (by decide) ?_
    refine j_aload_n 0 dX11_isCell_8 rfl ?_
    refine j_getv (S 0 0) dX11_isCell_9 fX11_7 (shM hM sgM_0) rfl (mr_side hS) ?_
    refine j_icmp_ge (tgt := 30) dX11_isCell_12 rfl (fun c2 => ?_) (fun c2 => ?_)
    · refine j_iconst 0 dX11_isCell_30 ic_0 ?_
      refine j_zret dX11_isCell_31 rfl rfl ?_
      exact hQ _ _ ⟨by rw [bI_f (by clear hQ; grind [isC])], rfl⟩
    · refine j_iload_n 1 dX11_isCell_15 rfl ?_
      refine j_bipush 10 dX11_isCell_16 bp_10 ?_
      refine j_irem dX11_isCell_18 (by decide) ?_
      refine j_aload_n 0 dX11_isCell_19 rfl ?_
      refine j_getv (S 0 0) dX11_isCell_20 fX11_7 (shM hM sgM_0) rfl (mr_side hS) ?_
      refine j_icmp_ge (tgt := 30) dX11_isCell_23 rfl (fun c3 => ?_) (fun c3 => ?_)
      · refine j_iconst 0 dX11_isCell_30 ic_0 ?_
        refine j_zret dX11_isCell_31 rfl rfl ?_
        exact hQ _ _ ⟨by rw [bI_f (by clear hQ; grind [isC])], rfl⟩
      · refine j_iconst 1 dX11_isCell_26 ic_1 ?_
        refine j_goto (tgt := 31) dX11_isCell_27 rfl ?_
        refine j_zret dX11_isCell_31 rfl rfl ?_
        exact hQ _ _ ⟨by rw [bI_t (by clear hQ; grind [isC])], rfl⟩
set_option maxRecDepth 20000 in
set_option maxHeartbeats 4000000 in
theorem T_X11_no {d : Nat} {M : jk_M} (hM : WM M) (c : Int32) (hc : 0 < 0 - c ∧ 0 - c < 8) : J Fr_X11_no d 0 0 0 [(0, .ref 0), (1, .int c)] [] M (jk_is (some (.int c)) (nrM M c)) := by
  refine j_post (fun Q hQ => ?_)
  refine j_aload_n 0 dX11_no_0 rfl ?_
  refine j_getr (q := 1) dX11_no_1 fX11_25 (shM hM sgM_0) rfl (rfM hM rfM_0_9) ?_
  refine j_iload_n 1 dX11_no_4 rfl ?_
  refine j_ineg dX11_no_5 ?_
  refine j_dup2 dX11_no_6 rfl rfl ?_
  refine j_iald dX11_no_7 (shM hM sgM_1) (vpin 8 (by decide) (Int32.le_of_lt hc.1) hc.2) ?_
  refine j_iconst 1 dX11_no_8 ic_1 ?_
  refine j_iadd dX11_no_9 ?_
  refine j_iast dX11_no_10 (shM hM sgM_1) (vpin 8 (by decide) (Int32.le_of_lt hc.1) hc.2) ?_
  refine j_iload_n 1 dX11_no_11 rfl ?_
  refine j_iret dX11_no_12 rfl ?_
  exact hQ _ _ ⟨rfl, rfl⟩
set_option maxRecDepth 20000 in
set_option maxHeartbeats 4000000 in
theorem T_X11_noTen {d : Nat} {M : jk_M} (hM : WM M) (c : Int32) (hc : 0 < 0 - c ∧ 0 - c < 8) : J Fr_X11_noTen d 0 0 0 [(0, .ref 0), (1, .int c)] [] M (jk_is (some (.int (c - 10))) (nrM M c)) := by
  refine j_post (fun Q hQ => ?_)
  refine j_aload_n 0 dX11_noTen_0 rfl ?_
  refine j_getr (q := 1) dX11_noTen_1 fX11_25 (shM hM sgM_0) rfl (rfM hM rfM_0_9) ?_
  refine j_iload_n 1 dX11_noTen_4 rfl ?_
  refine j_ineg dX11_noTen_5 ?_
  refine j_dup2 dX11_noTen_6 rfl rfl ?_
  refine j_iald dX11_noTen_7 (shM hM sgM_1) (vpin 8 (by decide) (Int32.le_of_lt hc.1) hc.2) ?_
  refine j_iconst 1 dX11_noTen_8 ic_1 ?_
  refine j_iadd dX11_noTen_9 ?_
  refine j_iast dX11_noTen_10 (shM hM sgM_1) (vpin 8 (by decide) (Int32.le_of_lt hc.1) hc.2) ?_
  refine j_iload_n 1 dX11_noTen_11 rfl ?_
  refine j_bipush 10 dX11_noTen_12 bp_10 ?_
  refine j_isub dX11_noTen_14 ?_
  refine j_iret dX11_noTen_15 rfl ?_
  exact hQ _ _ ⟨rfl, rfl⟩
set_option maxRecDepth 20000 in
set_option maxHeartbeats 4000000 in
theorem T_X11_loss {d : Nat} {M : jk_M} {S : HS} (hM : WM M) (hS : mv M.2.1 = S) (ok : Sok S) (t : Nat) (ht : t < nT S) : J Fr_X11_loss d 0 0 0 [(0, .ref 0), (1, .int (nI t))] [] M (jk_is (some (.int (lossT S t))) M) := by
  refine j_post (fun Q hQ => ?_)
  have hT := (Sok.T ok).2
  have h01 := (ok.th ht).2.2.2
  have hkd := kd7 (ok.th ht).1
  refine j_aload_n 0 dX11_loss_0 rfl ?_
  refine j_getr (q := 5) dX11_loss_1 fX11_38 (shM hM sgM_0) rfl (rfM hM rfM_0_13) ?_
  refine j_iload_n 1 dX11_loss_4 rfl ?_
  refine j_ialdN t dX11_loss_5 (shM hM sgM_5) (by omega) (by omega) ?_
  refine j_topi (S 13 t) (mr_arT hS (k := 3) (by omega) (by decide)) ?_
  refine j_iconst 1 dX11_loss_6 ic_1 ?_
  refine j_icmp_ne (tgt := 19) dX11_loss_7 rfl (fun c1 => ?_) (fun c1 => ?_)
  · refine j_iconst 0 dX11_loss_19 ic_0 ?_
    refine j_istore_n (L' := [(2, .int 0), (0, .ref 0), (1, .int (nI t))]) dX11_loss_20 (by decide) rfl ?_
    refine j_aload_n 1 dX11_loss_21 rfl ?_
    refine j_getr (q := 2) dX11_loss_22 fX11_29 (shM hM sgM_0) rfl (rfM hM rfM_0_10) ?_
    refine j_iload_n 2 dX11_loss_25 rfl ?_
    refine j_ialdN t dX11_loss_26 (shM hM sgM_2) (by omega) (by omega) ?_
    refine j_topi (S 10 t) (mr_arT hS (k := 0) (by omega) (by decide)) ?_
    by_cases c3 : (S 10 t) = 1
    · refine j_tableIn (tgt := 64) dX11_loss_27 (by rw [c3]; decide) (by rw [c3]; decide) (off := 37) (by rw [c3]; decide) rfl ?_
      refine j_aload_n 1 dX11_loss_64 rfl ?_
      refine j_getr (q := 3) dX11_loss_65 fX11_32 (shM hM sgM_0) rfl (rfM hM rfM_0_11) ?_
      refine j_iload_n 2 dX11_loss_68 rfl ?_
      refine j_ialdN t dX11_loss_69 (shM hM sgM_3) (by omega) (by omega) ?_
      refine j_topi (S 11 t) (mr_arT hS (k := 1) (by omega) (by decide)) ?_
      refine j_iconst 3 dX11_loss_70 ic_3 ?_
      refine j_iadd dX11_loss_71 ?_
      refine j_iret dX11_loss_72 rfl ?_
      exact hQ _ _ ⟨by clear hQ hS hM; grind [lossT, lossK], rfl⟩
    by_cases c4 : (S 10 t) = 2
    · refine j_tableIn (tgt := 84) dX11_loss_27 (by rw [c4]; decide) (by rw [c4]; decide) (off := 57) (by rw [c4]; decide) rfl ?_
      refine j_iload_n 0 dX11_loss_84 rfl ?_
      refine j_iret dX11_loss_85 rfl ?_
      exact hQ _ _ ⟨by clear hQ hS hM; grind [lossT, lossK], rfl⟩
    by_cases c5 : (S 10 t) = 3
    · refine j_tableIn (tgt := 73) dX11_loss_27 (by rw [c5]; decide) (by rw [c5]; decide) (off := 46) (by rw [c5]; decide) rfl ?_
      refine j_iconst 2 dX11_loss_73 ic_2 ?_
      refine j_aload_n 1 dX11_loss_74 rfl ?_
      refine j_getr (q := 3) dX11_loss_75 fX11_32 (shM hM sgM_0) rfl (rfM hM rfM_0_11) ?_
      refine j_iload_n 2 dX11_loss_78 rfl ?_
      refine j_ialdN t dX11_loss_79 (shM hM sgM_3) (by omega) (by omega) ?_
      refine j_topi (S 11 t) (mr_arT hS (k := 1) (by omega) (by decide)) ?_
      refine j_iconst 3 dX11_loss_80 ic_3 ?_
      refine j_iadd dX11_loss_81 ?_
      refine j_imul dX11_loss_82 ?_
      refine j_iret dX11_loss_83 rfl ?_
      exact hQ _ _ ⟨by clear hQ hS hM; grind [lossT, lossK], rfl⟩
    by_cases c6 : (S 10 t) = 4
    · refine j_tableIn (tgt := 90) dX11_loss_27 (by rw [c6]; decide) (by rw [c6]; decide) (off := 63) (by rw [c6]; decide) rfl ?_
      refine j_iconst 0 dX11_loss_90 ic_0 ?_
      refine j_iret dX11_loss_91 rfl ?_
      exact hQ _ _ ⟨by clear hQ hS hM; grind [lossT, lossK], rfl⟩
    by_cases c7 : (S 10 t) = 5
    · refine j_tableIn (tgt := 86) dX11_loss_27 (by rw [c7]; decide) (by rw [c7]; decide) (off := 59) (by rw [c7]; decide) rfl ?_
      refine j_iload_n 0 dX11_loss_86 rfl ?_
      refine j_iconst 2 dX11_loss_87 ic_2 ?_
      refine j_idiv dX11_loss_88 (by decide) ?_
      refine j_iret dX11_loss_89 rfl ?_
      exact hQ _ _ ⟨by clear hQ hS hM; grind [lossT, lossK], rfl⟩
    by_cases c8 : (S 10 t) = 6
    · refine j_tableIn (tgt := 90) dX11_loss_27 (by rw [c8]; decide) (by rw [c8]; decide) (off := 63) (by rw [c8]; decide) rfl ?_
      refine j_iconst 0 dX11_loss_90 ic_0 ?_
      refine j_iret dX11_loss_91 rfl ?_
      exact hQ _ _ ⟨by clear hQ hS hM; grind [lossT, lossK], rfl⟩
    refine j_tableOut (tgt := 92) dX11_loss_27 (by have q0 := lv_neT c3 (a := 1) (by decide); have q1 := lv_neT c4 (a := 2) (by decide); have q2 := lv_neT c5 (a := 3) (by decide); have q3 := lv_neT c6 (a := 4) (by decide); have q4 := lv_neT c7 (a := 5) (by decide); have q5 := lv_neT c8 (a := 6) (by decide); omega) rfl ?_
    refine j_aload_n 1 dX11_loss_92 rfl ?_
    refine j_getr (q := 3) dX11_loss_93 fX11_32 (shM hM sgM_0) rfl (rfM hM rfM_0_11) ?_
    refine j_iload_n 2 dX11_loss_96 rfl ?_
    refine j_ialdN t dX11_loss_97 (shM hM sgM_3) (by omega) (by omega) ?_
    refine j_topi (S 11 t) (mr_arT hS (k := 1) (by omega) (by decide)) ?_
    refine j_iret dX11_loss_98 rfl ?_
    exact hQ _ _ ⟨by clear hQ hS hM; grind [lossT, lossK], rfl⟩
  · refine j_aload_n 0 dX11_loss_10 rfl ?_
    refine j_getr (q := 3) dX11_loss_11 fX11_32 (shM hM sgM_0) rfl (rfM hM rfM_0_11) ?_
    refine j_iload_n 1 dX11_loss_14 rfl ?_
    refine j_ialdN t dX11_loss_15 (shM hM sgM_3) (by omega) (by omega) ?_
    refine j_topi (S 11 t) (mr_arT hS (k := 1) (by omega) (by decide)) ?_
    refine j_goto (tgt := 20) dX11_loss_16 rfl ?_
    refine j_istore_n (L' := [(2, .int (S 11 t)), (0, .ref 0), (1, .int (nI t))]) dX11_loss_20 (by decide) rfl ?_
    refine j_aload_n 1 dX11_loss_21 rfl ?_
    refine j_getr (q := 2) dX11_loss_22 fX11_29 (shM hM sgM_0) rfl (rfM hM rfM_0_10) ?_
    refine j_iload_n 2 dX11_loss_25 rfl ?_
    refine j_ialdN t dX11_loss_26 (shM hM sgM_2) (by omega) (by omega) ?_
    refine j_topi (S 10 t) (mr_arT hS (k := 0) (by omega) (by decide)) ?_
    by_cases c10 : (S 10 t) = 1
    · refine j_tableIn (tgt := 64) dX11_loss_27 (by rw [c10]; decide) (by rw [c10]; decide) (off := 37) (by rw [c10]; decide) rfl ?_
      refine j_aload_n 1 dX11_loss_64 rfl ?_
      refine j_getr (q := 3) dX11_loss_65 fX11_32 (shM hM sgM_0) rfl (rfM hM rfM_0_11) ?_
      refine j_iload_n 2 dX11_loss_68 rfl ?_
      refine j_ialdN t dX11_loss_69 (shM hM sgM_3) (by omega) (by omega) ?_
      refine j_topi (S 11 t) (mr_arT hS (k := 1) (by omega) (by decide)) ?_
      refine j_iconst 3 dX11_loss_70 ic_3 ?_
      refine j_iadd dX11_loss_71 ?_
      refine j_iret dX11_loss_72 rfl ?_
      exact hQ _ _ ⟨by clear hQ hS hM; grind [lossT, lossK], rfl⟩
    by_cases c11 : (S 10 t) = 2
    · refine j_tableIn (tgt := 84) dX11_loss_27 (by rw [c11]; decide) (by rw [c11]; decide) (off := 57) (by rw [c11]; decide) rfl ?_
      refine j_iload_n 0 dX11_loss_84 rfl ?_
      refine j_iret dX11_loss_85 rfl ?_
      exact hQ _ _ ⟨by clear hQ hS hM; grind [lossT, lossK], rfl⟩
    by_cases c12 : (S 10 t) = 3
    · refine j_tableIn (tgt := 73) dX11_loss_27 (by rw [c12]; decide) (by rw [c12]; decide) (off := 46) (by rw [c12]; decide) rfl ?_
      refine j_iconst 2 dX11_loss_73 ic_2 ?_
      refine j_aload_n 1 dX11_loss_74 rfl ?_
      refine j_getr (q := 3) dX11_loss_75 fX11_32 (shM hM sgM_0) rfl (rfM hM rfM_0_11) ?_
      refine j_iload_n 2 dX11_loss_78 rfl ?_
      refine j_ialdN t dX11_loss_79 (shM hM sgM_3) (by omega) (by omega) ?_
      refine j_topi (S 11 t) (mr_arT hS (k := 1) (by omega) (by decide)) ?_
      refine j_iconst 3 dX11_loss_80 ic_3 ?_
      refine j_iadd dX11_loss_81 ?_
      refine j_imul dX11_loss_82 ?_
      refine j_iret dX11_loss_83 rfl ?_
      exact hQ _ _ ⟨by clear hQ hS hM; grind [lossT, lossK], rfl⟩
    by_cases c13 : (S 10 t) = 4
    · refine j_tableIn (tgt := 90) dX11_loss_27 (by rw [c13]; decide) (by rw [c13]; decide) (off := 63) (by rw [c13]; decide) rfl ?_
      refine j_iconst 0 dX11_loss_90 ic_0 ?_
      refine j_iret dX11_loss_91 rfl ?_
      exact hQ _ _ ⟨by clear hQ hS hM; grind [lossT, lossK], rfl⟩
    by_cases c14 : (S 10 t) = 5
    · refine j_tableIn (tgt := 86) dX11_loss_27 (by rw [c14]; decide) (by rw [c14]; decide) (off := 59) (by rw [c14]; decide) rfl ?_
      refine j_iload_n 0 dX11_loss_86 rfl ?_
      refine j_iconst 2 dX11_loss_87 ic_2 ?_
      refine j_idiv dX11_loss_88 (by decide) ?_
      refine j_iret dX11_loss_89 rfl ?_
      exact hQ _ _ ⟨by clear hQ hS hM; grind [lossT, lossK], rfl⟩
    by_cases c15 : (S 10 t) = 6
    · refine j_tableIn (tgt := 90) dX11_loss_27 (by rw [c15]; decide) (by rw [c15]; decide) (off := 63) (by rw [c15]; decide) rfl ?_
      refine j_iconst 0 dX11_loss_90 ic_0 ?_
      refine j_iret dX11_loss_91 rfl ?_
      exact hQ _ _ ⟨by clear hQ hS hM; grind [lossT, lossK], rfl⟩
    refine j_tableOut (tgt := 92) dX11_loss_27 (by have q0 := lv_neT c10 (a := 1) (by decide); have q1 := lv_neT c11 (a := 2) (by decide); have q2 := lv_neT c12 (a := 3) (by decide); have q3 := lv_neT c13 (a := 4) (by decide); have q4 := lv_neT c14 (a := 5) (by decide); have q5 := lv_neT c15 (a := 6) (by decide); omega) rfl ?_
    refine j_aload_n 1 dX11_loss_92 rfl ?_
    refine j_getr (q := 3) dX11_loss_93 fX11_32 (shM hM sgM_0) rfl (rfM hM rfM_0_11) ?_
    refine j_iload_n 2 dX11_loss_96 rfl ?_
    refine j_ialdN t dX11_loss_97 (shM hM sgM_3) (by omega) (by omega) ?_
    refine j_topi (S 11 t) (mr_arT hS (k := 1) (by omega) (by decide)) ?_
    refine j_iret dX11_loss_98 rfl ?_
    exact hQ _ _ ⟨by clear hQ hS hM; grind [lossT, lossK], rfl⟩
set_option maxRecDepth 20000 in
set_option maxHeartbeats 4000000 in
theorem T_X11_hums {d : Nat} {M : jk_M} {S : HS} (hM : WM M) (hS : mv M.2.1 = S) (ok : Sok S) (t : Nat) (ht : t < nT S) (c : Int32) (hc : isP c) : J Fr_X11_hums (d + 2) 0 0 0 [(0, .ref 0), (1, .int (nI t)), (2, .int c)] [] M (jk_is (some (.int (humT S t c))) M) := by
  refine j_post (fun Q hQ => ?_)
  have hT := (Sok.T ok).2
  have hcT := isC_P ok (ok.th ht).2.2.1
  refine j_aload_n 0 dX11_hums_0 rfl ?_
  refine j_getr (q := 2) dX11_hums_1 fX11_29 (shM hM sgM_0) rfl (rfM hM rfM_0_10) ?_
  refine j_iload_n 1 dX11_hums_4 rfl ?_
  refine j_ialdN t dX11_hums_5 (shM hM sgM_2) (by omega) (by omega) ?_
  refine j_topi (S 10 t) (mr_arT hS (k := 0) (by omega) (by decide)) ?_
  refine j_bipush 6 dX11_hums_6 bp_6 ?_
  refine j_icmp_ne (tgt := 16) dX11_hums_8 rfl (fun c1 => ?_) (fun c1 => ?_)
  · refine j_aload_n 0 dX11_hums_16 rfl ?_
    refine j_getr (q := 2) dX11_hums_17 fX11_29 (shM hM sgM_0) rfl (rfM hM rfM_0_10) ?_
    refine j_iload_n 1 dX11_hums_20 rfl ?_
    refine j_ialdN t dX11_hums_21 (shM hM sgM_2) (by omega) (by omega) ?_
    refine j_topi (S 10 t) (mr_arT hS (k := 0) (by omega) (by decide)) ?_
    refine j_iconst 4 dX11_hums_22 ic_4 ?_
    refine j_icmp_ne (tgt := 47) dX11_hums_23 rfl (fun c2 => ?_) (fun c2 => ?_)
    · refine j_iconst 0 dX11_hums_47 ic_0 ?_
      refine j_istore_n (L' := [(3, .int 0), (0, .ref 0), (1, .int (nI t)), (2, .int c)]) dX11_hums_48 (by decide) rfl ?_
      refine j_iload_n 0 dX11_hums_49 rfl ?_
      refine j_iconst 5 dX11_hums_50 ic_5 ?_
      refine j_aload_n 1 dX11_hums_51 rfl ?_
      refine j_aload_n 1 dX11_hums_52 rfl ?_
      refine j_getr (q := 4) dX11_hums_53 fX11_35 (shM hM sgM_0) rfl (rfM hM rfM_0_12) ?_
      refine j_iload_n 2 dX11_hums_56 rfl ?_
      refine j_ialdN t dX11_hums_57 (shM hM sgM_4) (by omega) (by omega) ?_
      refine j_topi (S 12 t) (mr_arT hS (k := 2) (by omega) (by decide)) ?_
      refine j_iload_n 3 dX11_hums_58 rfl ?_
      refine j_callV (kc := 0) (ks := 0) (a := 0) (b := 0) (d' := (d + 1)) (As := [.int (S 12 t), .int c]) dX11_hums_59 kX11_242 rfl (shM hM sgM_0) (by omega) rfl rfl rfl (Nat.le_of_ble_eq_true rfl) (Nat.le_of_ble_eq_true rfl) (T_X11_far hM (S 12 t) c hcT hc) (kk_p ?_)
      refine j_imul dX11_hums_62 ?_
      refine j_isub dX11_hums_63 ?_
      refine j_istore_n (L' := [(3, .int (0 - (5 * (sfar (S 12 t) c)))), (0, .ref 0), (1, .int (nI t)), (2, .int c)]) dX11_hums_64 (by decide) rfl ?_
      refine j_iload_n 0 dX11_hums_65 rfl ?_
      refine j_if_ge (tgt := 73) dX11_hums_66 rfl (fun c3 => ?_) (fun c3 => ?_)
      · refine j_iload_n 0 dX11_hums_73 rfl ?_
        refine j_iret dX11_hums_74 rfl ?_
        exact hQ _ _ ⟨by clear hQ hS hM; unfold humT humK jmax; grind, rfl⟩
      · refine j_iconst 0 dX11_hums_69 ic_0 ?_
        refine j_goto (tgt := 74) dX11_hums_70 rfl ?_
        refine j_iret dX11_hums_74 rfl ?_
        exact hQ _ _ ⟨by clear hQ hS hM; unfold humT humK jmax; grind, rfl⟩
    · refine j_aload_n 0 dX11_hums_26 rfl ?_
      refine j_getv (S 3 0) dX11_hums_27 fX11_170 (shM hM sgM_0) rfl (mr_min hS) ?_
      refine j_bipush 10 dX11_hums_30 bp_10 ?_
      refine j_irem dX11_hums_32 (by decide) ?_
      refine j_aload_n 0 dX11_hums_33 rfl ?_
      refine j_getr (q := 3) dX11_hums_34 fX11_32 (shM hM sgM_0) rfl (rfM hM rfM_0_11) ?_
      refine j_iload_n 1 dX11_hums_37 rfl ?_
      refine j_ialdN t dX11_hums_38 (shM hM sgM_3) (by omega) (by omega) ?_
      refine j_topi (S 11 t) (mr_arT hS (k := 1) (by omega) (by decide)) ?_
      refine j_icmp_ge (tgt := 47) dX11_hums_39 rfl (fun c4 => ?_) (fun c4 => ?_)
      · refine j_iconst 0 dX11_hums_47 ic_0 ?_
        refine j_istore_n (L' := [(3, .int 0), (0, .ref 0), (1, .int (nI t)), (2, .int c)]) dX11_hums_48 (by decide) rfl ?_
        refine j_iload_n 0 dX11_hums_49 rfl ?_
        refine j_iconst 5 dX11_hums_50 ic_5 ?_
        refine j_aload_n 1 dX11_hums_51 rfl ?_
        refine j_aload_n 1 dX11_hums_52 rfl ?_
        refine j_getr (q := 4) dX11_hums_53 fX11_35 (shM hM sgM_0) rfl (rfM hM rfM_0_12) ?_
        refine j_iload_n 2 dX11_hums_56 rfl ?_
        refine j_ialdN t dX11_hums_57 (shM hM sgM_4) (by omega) (by omega) ?_
        refine j_topi (S 12 t) (mr_arT hS (k := 2) (by omega) (by decide)) ?_
        refine j_iload_n 3 dX11_hums_58 rfl ?_
        refine j_callV (kc := 0) (ks := 0) (a := 0) (b := 0) (d' := (d + 1)) (As := [.int (S 12 t), .int c]) dX11_hums_59 kX11_242 rfl (shM hM sgM_0) (by omega) rfl rfl rfl (Nat.le_of_ble_eq_true rfl) (Nat.le_of_ble_eq_true rfl) (T_X11_far hM (S 12 t) c hcT hc) (kk_p ?_)
        refine j_imul dX11_hums_62 ?_
        refine j_isub dX11_hums_63 ?_
        refine j_istore_n (L' := [(3, .int (0 - (5 * (sfar (S 12 t) c)))), (0, .ref 0), (1, .int (nI t)), (2, .int c)]) dX11_hums_64 (by decide) rfl ?_
        refine j_iload_n 0 dX11_hums_65 rfl ?_
        refine j_if_ge (tgt := 73) dX11_hums_66 rfl (fun c5 => ?_) (fun c5 => ?_)
        · refine j_iload_n 0 dX11_hums_73 rfl ?_
          refine j_iret dX11_hums_74 rfl ?_
          exact hQ _ _ ⟨by clear hQ hS hM; unfold humT humK jmax; grind, rfl⟩
        · refine j_iconst 0 dX11_hums_69 ic_0 ?_
          refine j_goto (tgt := 74) dX11_hums_70 rfl ?_
          refine j_iret dX11_hums_74 rfl ?_
          exact hQ _ _ ⟨by clear hQ hS hM; unfold humT humK jmax; grind, rfl⟩
      · refine j_bipush 20 dX11_hums_42 bp_20 ?_
        refine j_goto (tgt := 48) dX11_hums_44 rfl ?_
        refine j_istore_n (L' := [(3, .int 20), (0, .ref 0), (1, .int (nI t)), (2, .int c)]) dX11_hums_48 (by decide) rfl ?_
        refine j_iload_n 0 dX11_hums_49 rfl ?_
        refine j_iconst 5 dX11_hums_50 ic_5 ?_
        refine j_aload_n 1 dX11_hums_51 rfl ?_
        refine j_aload_n 1 dX11_hums_52 rfl ?_
        refine j_getr (q := 4) dX11_hums_53 fX11_35 (shM hM sgM_0) rfl (rfM hM rfM_0_12) ?_
        refine j_iload_n 2 dX11_hums_56 rfl ?_
        refine j_ialdN t dX11_hums_57 (shM hM sgM_4) (by omega) (by omega) ?_
        refine j_topi (S 12 t) (mr_arT hS (k := 2) (by omega) (by decide)) ?_
        refine j_iload_n 3 dX11_hums_58 rfl ?_
        refine j_callV (kc := 0) (ks := 0) (a := 0) (b := 0) (d' := (d + 1)) (As := [.int (S 12 t), .int c]) dX11_hums_59 kX11_242 rfl (shM hM sgM_0) (by omega) rfl rfl rfl (Nat.le_of_ble_eq_true rfl) (Nat.le_of_ble_eq_true rfl) (T_X11_far hM (S 12 t) c hcT hc) (kk_p ?_)
        refine j_imul dX11_hums_62 ?_
        refine j_isub dX11_hums_63 ?_
        refine j_istore_n (L' := [(3, .int (20 - (5 * (sfar (S 12 t) c)))), (0, .ref 0), (1, .int (nI t)), (2, .int c)]) dX11_hums_64 (by decide) rfl ?_
        refine j_iload_n 0 dX11_hums_65 rfl ?_
        refine j_if_ge (tgt := 73) dX11_hums_66 rfl (fun c6 => ?_) (fun c6 => ?_)
        · refine j_iload_n 0 dX11_hums_73 rfl ?_
          refine j_iret dX11_hums_74 rfl ?_
          exact hQ _ _ ⟨by clear hQ hS hM; unfold humT humK jmax; grind, rfl⟩
        · refine j_iconst 0 dX11_hums_69 ic_0 ?_
          refine j_goto (tgt := 74) dX11_hums_70 rfl ?_
          refine j_iret dX11_hums_74 rfl ?_
          exact hQ _ _ ⟨by clear hQ hS hM; unfold humT humK jmax; grind, rfl⟩
  · refine j_bipush 10 dX11_hums_11 bp_10 ?_
    refine j_goto (tgt := 48) dX11_hums_13 rfl ?_
    refine j_istore_n (L' := [(3, .int 10), (0, .ref 0), (1, .int (nI t)), (2, .int c)]) dX11_hums_48 (by decide) rfl ?_
    refine j_iload_n 0 dX11_hums_49 rfl ?_
    refine j_iconst 5 dX11_hums_50 ic_5 ?_
    refine j_aload_n 1 dX11_hums_51 rfl ?_
    refine j_aload_n 1 dX11_hums_52 rfl ?_
    refine j_getr (q := 4) dX11_hums_53 fX11_35 (shM hM sgM_0) rfl (rfM hM rfM_0_12) ?_
    refine j_iload_n 2 dX11_hums_56 rfl ?_
    refine j_ialdN t dX11_hums_57 (shM hM sgM_4) (by omega) (by omega) ?_
    refine j_topi (S 12 t) (mr_arT hS (k := 2) (by omega) (by decide)) ?_
    refine j_iload_n 3 dX11_hums_58 rfl ?_
    refine j_callV (kc := 0) (ks := 0) (a := 0) (b := 0) (d' := (d + 1)) (As := [.int (S 12 t), .int c]) dX11_hums_59 kX11_242 rfl (shM hM sgM_0) (by omega) rfl rfl rfl (Nat.le_of_ble_eq_true rfl) (Nat.le_of_ble_eq_true rfl) (T_X11_far hM (S 12 t) c hcT hc) (kk_p ?_)
    refine j_imul dX11_hums_62 ?_
    refine j_isub dX11_hums_63 ?_
    refine j_istore_n (L' := [(3, .int (10 - (5 * (sfar (S 12 t) c)))), (0, .ref 0), (1, .int (nI t)), (2, .int c)]) dX11_hums_64 (by decide) rfl ?_
    refine j_iload_n 0 dX11_hums_65 rfl ?_
    refine j_if_ge (tgt := 73) dX11_hums_66 rfl (fun c7 => ?_) (fun c7 => ?_)
    · refine j_iload_n 0 dX11_hums_73 rfl ?_
      refine j_iret dX11_hums_74 rfl ?_
      exact hQ _ _ ⟨by clear hQ hS hM; unfold humT humK jmax; grind, rfl⟩
    · refine j_iconst 0 dX11_hums_69 ic_0 ?_
      refine j_goto (tgt := 74) dX11_hums_70 rfl ?_
      refine j_iret dX11_hums_74 rfl ?_
      exact hQ _ _ ⟨by clear hQ hS hM; unfold humT humK jmax; grind, rfl⟩
set_option maxRecDepth 20000 in
set_option maxHeartbeats 4000000 in
theorem T_X11_dinOf {d : Nat} {M : jk_M} (hM : WM M) (n x y : Int32) (hx : inB x 1 13) (hy : inB y 1 13) : J Fr_X11_dinOf (d + 1) 0 0 0 [(0, .ref 0), (1, .int n), (2, .int x), (3, .int y)] [] M (jk_is (some (.int (noiseO n (x - y)))) M) := by
  refine j_post (fun Q hQ => ?_)
  refine j_iconst 5 dX11_dinOf_0 ic_5 ?_
  refine j_aload_n 0 dX11_dinOf_1 rfl ?_
  refine j_iload_n 2 dX11_dinOf_2 rfl ?_
  refine j_iload_n 3 dX11_dinOf_3 rfl ?_
  refine j_callV (kc := 0) (ks := 0) (a := 0) (b := 0) (d' := d) (As := [.int x, .int y]) dX11_dinOf_4 kX11_239 rfl (shM hM sgM_0) (by omega) rfl rfl rfl (Nat.le_of_ble_eq_true rfl) (Nat.le_of_ble_eq_true rfl) (T_X11_apart x y) (kk_p ?_)
  refine j_isub dX11_dinOf_7 ?_
  refine j_istore (L' := [(4, .int (5 - (apa x y))), (0, .ref 0), (1, .int n), (2, .int x), (3, .int y)]) dX11_dinOf_8 (by decide) rfl ?_
  refine j_iload 0 dX11_dinOf_10 rfl ?_
  refine j_if_gt (tgt := 19) dX11_dinOf_12 rfl (fun c1 => ?_) (fun c1 => ?_)
  · refine j_iload_n 2 dX11_dinOf_19 rfl ?_
    refine j_iload 0 dX11_dinOf_20 rfl ?_
    refine j_imul dX11_dinOf_22 ?_
    refine j_iconst 5 dX11_dinOf_23 ic_5 ?_
    refine j_idiv dX11_dinOf_24 (by decide) ?_
    refine j_iret dX11_dinOf_25 rfl ?_
    exact hQ _ _ ⟨by rw [← noise_e hx hy, if_neg (by clear hQ; grind)], rfl⟩
  · refine j_iconst 0 dX11_dinOf_15 ic_0 ?_
    refine j_goto (tgt := 25) dX11_dinOf_16 rfl ?_
    refine j_iret dX11_dinOf_25 rfl ?_
    exact hQ _ _ ⟨by rw [← noise_e hx hy, if_pos (by clear hQ; grind)], rfl⟩
